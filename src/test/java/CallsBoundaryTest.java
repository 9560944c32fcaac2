import java.util.Arrays;

/** The promises 1 to 11: each sentence that names a boundary, on both sides of it. */
public final class CallsBoundaryTest {
    private static final Checks CHECKS = new Checks();
    private static final Class<IllegalStateException> STATE = IllegalStateException.class;
    private static final Class<IllegalArgumentException> BAD = IllegalArgumentException.class;
    private static final Class<IndexOutOfBoundsException> OUTSIDE = IndexOutOfBoundsException.class;
    private static final int MOST = 65536;
    private static final int LEAST_INT = Integer.MIN_VALUE;
    private static final int GREATEST_INT = Integer.MAX_VALUE;
    private static final int[] EIGHT = Bytes.text("abcdefgh");
    /** The length of INPUT of withTexts, and its DELTA. */
    private static final int IN_INPUT = 20;
    private static final int[] ITS_DELTA = {9, 20, 1, '?', 144, 9, 1, '!', 145, 1, 8, 1, '.'};

    public static void main(String[] args) {
        newObjectIsEmpty();
        highestFirst();
        feedTooLong();
        endOfAsManyAsThere();
        endOfNothing();
        endOfAll65536();
        changeOfWhatIsThere();
        changeOfNothing();
        changeInAll65536();
        changeByByte();
        baseEmptiesInput();
        baseOfNothing();
        makeLeavesBoth();
        useLeavesBoth();
        damagedLeavesAll();
        turnTooLong();
        turnOfNothing();
        longestOfWhatIsThere();
        longestInNothing();
        longestInAll65536();
        longestOfOtherWhat();
        lengthBelow8();
        placeBelow8();
        letterOfWhatIsThere();
        letterOfNothing();
        letterOfLongOutputs();
        countBeforeMake();
        countOfLatestMake();
        countOfDamaged();
        countOfOthers();
        refusedChangesNothing();
        refusedWithLongTexts();
        CHECKS.finish();
    }

    /** BASE is nine letters; INPUT has them twice, and three others; OUTPUT is its DELTA; no count is 0. */
    private static Run withTexts() {
        Run x = new Run();
        x.putBase(Bytes.text("abcdefghi"));
        x.put(Bytes.text("?abcdefghi!bcdefghi."));
        x.make();
        CHECKS.dueThrow("use() of a text", ArithmeticException.class, x::use);
        return x;
    }

    /** INPUT is so many BYTES with a period of eight, OUTPUT the same, BASE those eight; no count is 0. */
    private static Run withLongInput(int length) {
        Run x = withTexts();
        x.putLong(EIGHT, length);
        x.putBase(EIGHT);
        x.turn();
        return x;
    }

    private static void newObjectIsEmpty() {
        CHECKS.says("1, Empty.");
        for (int what = 0; what <= 5; what++) {
            CHECKS.due("count(" + what + ")", new Run().count(what), 0);
        }
        Run x = new Run();
        CHECKS.dueRefused("letter(0)", OUTSIDE, x, () -> x.letter(0));
        CHECKS.dueRefused("longest(0, 0)", BAD, x, () -> x.longest(0, 0));
        CHECKS.dueRefused("longest(0, 1)", BAD, x, () -> x.longest(0, 1));
        CHECKS.dueRefused("end(1)", BAD, x, () -> x.end(1));
        CHECKS.dueRefused("change(0, 0)", BAD, x, () -> x.change(0, 0));
        CHECKS.dueDamaged("nothing", x);
        CHECKS.due("end(0)", new Run().end(0), 0);
        CHECKS.due("base", new Run().base(), 0);
        CHECKS.due("turn", new Run().turn(), 0);
        CHECKS.due("make", new Run().make(), 2);
        CHECKS.due("feed", new Run().feed(0, 0, 0, 0, 0), 20);
        // One object's texts are not another's.
        withTexts();
        CHECKS.due("count(0) of another", new Run().count(0) + new Run().count(1) + new Run().count(2), 0);
    }

    private static void dueFed(int[] want, int... n) {
        Run x = new Run();
        CHECKS.due("feed", x.feed(n[0], n[1], n[2], n[3], n[4]), 20);
        CHECKS.due("feed", x.feed(0, 0, 0, 0, 0), 40);
        x.make();
        CHECKS.dueOutput("make of feed(" + Arrays.toString(n) + ")", x,
                Bytes.join(Bytes.row(0, 40, 40), want, Bytes.repeat(20, 0)));
    }

    private static void highestFirst() {
        CHECKS.says("2, of each the highest first");
        dueFed(Bytes.row(1, 2, 3, 4, 5, 6, 7, 8, 9, 10, 11, 12, 13, 14, 15, 16, 17, 18, 19, 20),
                0x01020304, 0x05060708, 0x090a0b0c, 0x0d0e0f10, 0x11121314);
        dueFed(Bytes.row(128, 0, 0, 0, 127, 255, 255, 255, 255, 255, 255, 255, 0, 0, 0, 0, 0, 0, 0, 1),
                LEAST_INT, GREATEST_INT, -1, 0, 1);
        dueFed(Bytes.row(0, 0, 0, 128, 0, 0, 128, 0, 0, 128, 0, 0, 128, 0, 0, 0, 255, 127, 254, 1),
                128, 128 << 8, 128 << 16, 128 << 24, 0xff7ffe01);
        for (int k = 0; k < 5; k++) {
            int[] least = new int[5];
            int[] greatest = new int[5];
            least[k] = LEAST_INT;
            greatest[k] = GREATEST_INT;
            int[] leastBytes = new int[20];
            leastBytes[4 * k] = 128;
            int[] greatestBytes = new int[20];
            Arrays.fill(greatestBytes, 4 * k, 4 * k + 4, 255);
            greatestBytes[4 * k] = 127;
            dueFed(leastBytes, least);
            dueFed(greatestBytes, greatest);
        }
    }

    private static void feedTooLong() {
        CHECKS.says("2, It would be too long");
        int[] taken = {65515, 65516};
        for (int length : taken) {
            Run x = withLongInput(length);
            CHECKS.due("feed behind " + length, () -> x.feed(LEAST_INT, GREATEST_INT, -1, 0, 1), length + 20);
            CHECKS.due("count(0)", x.count(0), length + 20);
            CHECKS.dueRefused("feed once more", STATE, x, () -> x.feed(LEAST_INT, GREATEST_INT, -1, 0, 1));
        }
        int[] refused = {65517, 65518, 65535, 65536};
        for (int length : refused) {
            Run x = withLongInput(length);
            CHECKS.dueRefused("feed behind " + length, STATE, x, () -> x.feed(LEAST_INT, GREATEST_INT, -1, 0, 1));
        }
        Run x = withLongInput(MOST);
        x.end(20);
        CHECKS.due("feed when twenty are gone", () -> x.feed(0, 0, 0, 0, 0), MOST);
    }

    private static void endOfAsManyAsThere() {
        CHECKS.says("3, 0 or more, as many must be there; else bad");
        int[] refused = {-1, -2, IN_INPUT + 1, IN_INPUT + 2, -IN_INPUT, MOST, LEAST_INT, LEAST_INT + 1, GREATEST_INT};
        for (int n : refused) {
            Run x = withTexts();
            CHECKS.dueRefused("end(" + n + ")", BAD, x, () -> x.end(n));
            CHECKS.due("end(20) behind it", () -> x.end(IN_INPUT), 0);
        }
        for (int n = 0; n <= IN_INPUT; n++) {
            int taken = n;
            Run x = withTexts();
            CHECKS.due("end(" + n + ")", () -> x.end(taken), IN_INPUT - n);
            CHECKS.due("count(0) behind it", x.count(0), IN_INPUT - n);
            CHECKS.dueOutput("make before end", x, ITS_DELTA);
            CHECKS.dueRefused("end of one more", BAD, x, () -> x.end(IN_INPUT - taken + 1));
        }
        Run x = withTexts();
        x.end(17);
        x.make();
        CHECKS.dueOutput("make of what end left", x, 9, 3, 3, '?', 'a', 'b');
    }

    private static void endOfNothing() {
        CHECKS.says("3, 0 or more, as many must be there; else bad");
        Run x = withTexts();
        x.end(IN_INPUT);
        CHECKS.due("end(0) of nothing", () -> x.end(0), 0);
        int[] refused = {1, -1, LEAST_INT, GREATEST_INT};
        for (int n : refused) {
            CHECKS.dueRefused("end(" + n + ") of nothing", BAD, x, () -> x.end(n));
        }
    }

    private static void endOfAll65536() {
        CHECKS.says("3, 0 or more, as many must be there; else bad");
        Run x = withLongInput(MOST);
        CHECKS.due("end(0)", () -> x.end(0), MOST);
        CHECKS.dueRefused("end(65537)", BAD, x, () -> x.end(MOST + 1));
        CHECKS.dueRefused("end(-1)", BAD, x, () -> x.end(-1));
        CHECKS.due("end(65536)", () -> x.end(MOST), 0);
        CHECKS.due("count(0)", x.count(0), 0);
        Run y = withLongInput(MOST);
        CHECKS.due("end(65535)", () -> y.end(MOST - 1), 1);
    }

    private static void changeOfWhatIsThere() {
        CHECKS.says("4, it must be there, else bad");
        int[] refused = {-1, -2, IN_INPUT, IN_INPUT + 1, MOST, LEAST_INT, LEAST_INT + 1, GREATEST_INT};
        for (int i : refused) {
            Run x = withTexts();
            CHECKS.dueRefused("change(" + i + ", 1)", BAD, x, () -> x.change(i, 1));
            CHECKS.dueRefused("change(" + i + ", 0)", BAD, x, () -> x.change(i, 0));
            CHECKS.dueRefused("change(" + i + ", 256)", BAD, x, () -> x.change(i, 256));
        }
        for (int i = 0; i < IN_INPUT; i++) {
            dueXored(i, 255);
        }
        Run shorter = withTexts();
        shorter.end(1);
        CHECKS.dueRefused("change of what end took", BAD, shorter, () -> shorter.change(IN_INPUT - 1, 1));
        CHECKS.due("change of the last one", () -> shorter.change(IN_INPUT - 2, 1), 0);
    }

    /** BASE is nothing, so that OUTPUT of make has every BYTE of INPUT. */
    private static void dueXored(int i, int value) {
        int[] text = Bytes.differing(IN_INPUT);
        Run x = new Run();
        x.put(text);
        CHECKS.due("change(" + i + ", " + value + ")", () -> x.change(i, value), 0);
        CHECKS.due("count(0) behind it", x.count(0), IN_INPUT);
        text[i] ^= value;
        x.make();
        CHECKS.dueOutput("make behind change(" + i + ", " + value + ")", x,
                Bytes.join(Bytes.row(0, IN_INPUT, IN_INPUT), text));
    }

    private static void changeOfNothing() {
        CHECKS.says("4, it must be there, else bad");
        Run x = withTexts();
        x.end(IN_INPUT);
        int[] refused = {0, 1, -1, LEAST_INT, GREATEST_INT};
        for (int i : refused) {
            CHECKS.dueRefused("change(" + i + ", 1) of nothing", BAD, x, () -> x.change(i, 1));
        }
    }

    private static void changeInAll65536() {
        CHECKS.says("4, it must be there, else bad");
        Run x = withLongInput(MOST);
        CHECKS.dueRefused("change(65536, 1)", BAD, x, () -> x.change(MOST, 1));
        CHECKS.due("longest of the last eight", x.longest(MOST - 8, 0), 8);
        CHECKS.due("change(65535, 1)", () -> x.change(MOST - 1, 1), 0);
        CHECKS.due("longest of the last eight, changed", x.longest(MOST - 8, 0), 0);
        CHECKS.due("longest of those before", x.longest(MOST - 16, 0), 8);
    }

    private static void changeByByte() {
        CHECKS.says("4, 0 .. 255");
        int[] taken = {0, 1, 127, 128, 254, 255};
        for (int value : taken) {
            dueXored(0, value);
            dueXored(IN_INPUT - 1, value);
        }
        int[] refused = {-1, -255, -256, 256, 257, 511, MOST, LEAST_INT, LEAST_INT + 255, GREATEST_INT};
        for (int value : refused) {
            Run x = withTexts();
            CHECKS.dueRefused("change(0, " + value + ")", BAD, x, () -> x.change(0, value));
            CHECKS.dueRefused("change(19, " + value + ")", BAD, x, () -> x.change(IN_INPUT - 1, value));
            x.make();
            CHECKS.dueOutput("make behind refused change", x, ITS_DELTA);
        }
    }

    private static void baseEmptiesInput() {
        CHECKS.says("5, which is empty then");
        Run x = withTexts();
        CHECKS.due("base", x.base(), IN_INPUT);
        CHECKS.due("count(0)", x.count(0), 0);
        CHECKS.due("count(1)", x.count(1), IN_INPUT);
        CHECKS.dueOutput("make before base", x, ITS_DELTA);
        CHECKS.dueRefused("longest(0, 0) behind base", BAD, x, () -> x.longest(0, 0));
        CHECKS.dueRefused("change(0, 1) behind base", BAD, x, () -> x.change(0, 1));
        CHECKS.dueRefused("end(1) behind base", BAD, x, () -> x.end(1));
        CHECKS.due("end(0) behind base", x.end(0), 0);
        CHECKS.due("make behind base", x.make(), 2);
        CHECKS.dueOutput("make behind base", x, IN_INPUT, 0);
        CHECKS.due("feed behind base", x.feed(0x3f616263, 0x64656667, 0x68692162, 0x63646566, 0x6768692e), 20);
        x.change(19, 1);
        CHECKS.due("longest in BASE, which a change of INPUT leaves", x.longest(0, 0), 19);
        x.change(19, 1);
        CHECKS.due("longest in BASE", x.longest(0, 0), 20);
    }

    private static void baseOfNothing() {
        CHECKS.says("5, which is empty then");
        Run x = withTexts();
        x.base();
        CHECKS.due("base, the second time", x.base(), 0);
        CHECKS.due("count(1)", x.count(1), 0);
        x.put(Bytes.text("?abcdefghi!bcdefghi."));
        CHECKS.due("longest in no BASE", x.longest(0, 0), 0);
        Run full = withLongInput(MOST);
        CHECKS.due("base of 65536", full.base(), MOST);
        CHECKS.due("count(0)", full.count(0), 0);
        CHECKS.due("feed when BASE is full", full.feed(1, 2, 3, 4, 5), 20);
        full.end(20);
        CHECKS.due("base of nothing", full.base(), 0);
    }

    /** What tells INPUT and BASE: the DELTA, which has INPUT with all that is NEW, and count and longest. */
    private static void dueSameTexts(String what, Run x, Run untouched) {
        x.make();
        untouched.make();
        CHECKS.due("make behind " + what, Arrays.toString(x.output()), Arrays.toString(untouched.output()));
        x.turn();
        untouched.turn();
        CHECKS.due("use of it", Checks.outcome(x::use), Checks.outcome(untouched::use));
        CHECKS.due("INPUT behind " + what, Arrays.toString(x.output()), Arrays.toString(untouched.output()));
        CHECKS.due("BASE behind " + what, x.count(1), untouched.count(1));
    }

    private static Run withInputAndBase(int[] input, int[] base) {
        Run x = new Run();
        x.putBase(base);
        x.put(input);
        return x;
    }

    private static void makeLeavesBoth() {
        CHECKS.says("6, both stay");
        int[] letters = Bytes.differing(300);
        int[][] texts = {{}, EIGHT, letters, Bytes.join(EIGHT, letters), Bytes.repeat(40, EIGHT)};
        for (int[] input : texts) {
            for (int[] base : texts) {
                Run x = withInputAndBase(input, base);
                x.make();
                CHECKS.due("count(0)", x.count(0), input.length);
                CHECKS.due("count(1)", x.count(1), base.length);
                dueSameTexts("make", x, withInputAndBase(input, base));
            }
        }
        Run full = withLongInput(MOST);
        full.base();
        full.turn();
        full.make();
        CHECKS.due("INPUT of 65536", full.count(0), MOST);
        CHECKS.due("BASE of 65536", full.count(1), MOST);
        CHECKS.due("longest", full.longest(1, 0), 65535);
        CHECKS.due("make again", full.make(), 11);
    }

    private static void useLeavesBoth() {
        CHECKS.says("7, both stay");
        int[] sound = new Delta(8).copy(0, 8).fresh(Bytes.differing(100)).copy(3, 5).bytes();
        int[] empty = {8, 0};
        int[][] deltas = {sound, empty};
        for (int[] delta : deltas) {
            Run x = withInputAndBase(delta, EIGHT);
            CHECKS.due("use", x::use, delta == empty ? 0 : 113);
            CHECKS.due("use again", x::use, delta == empty ? 0 : 113);
            CHECKS.due("count(0)", x.count(0), delta.length);
            CHECKS.due("count(1)", x.count(1), 8);
            dueSameTexts("use", x, withInputAndBase(delta, EIGHT));
        }
    }

    private static void damagedLeavesAll() {
        CHECKS.says("7, both stay, a DAMAGED one");
        int[] damaged = new Delta(8).copy(0, 8).fresh(Bytes.differing(100)).copy(3, 6).bytes();
        Run x = withInputAndBase(damaged, EIGHT);
        x.make();
        CHECKS.dueDamaged("a COPY beyond BASE", x);
        CHECKS.dueDamaged("the same again", x);
        dueSameTexts("DAMAGED", x, withInputAndBase(damaged, EIGHT));
        // All that is wrong comes last: whatever was read until then is no OUTPUT.
        Run full = new Run();
        full.putLong(EIGHT, MOST);
        full.base();
        full.put(128, 128, 4, 128, 128, 4, 5, 'a', 'b', 'c', 'd', 'e', 177, 3, 240, 255, 0);
        CHECKS.dueDamaged("BYTE 0 behind 65525", full);
        full.put(128, 128, 4, 128, 128, 4, 1, '!', 177, 1, 255, 255, 0);
        CHECKS.dueDamaged("BYTE 0 behind 65536", full);
        full.put(128, 128, 4, 128, 128, 4, 1, '!', 177, 1, 255, 255);
        CHECKS.due("use without it", full::use, MOST);
        CHECKS.due("its first BYTE", full.letter(0), '!');
    }

    /** OUTPUT is the DELTA of INPUT, so many BYTES, on nothing: all of them are NEW. */
    private static Run withLongDelta(int length) {
        Run x = Run.withLong(EIGHT, length);
        CHECKS.due("make of " + length, x.make(), 4 + length + (length + 126) / 127);
        return x;
    }

    private static void turnTooLong() {
        CHECKS.says("8, It would be too long");
        int[] taken = {65019, 65020};
        for (int length : taken) {
            Run x = withLongDelta(length);
            CHECKS.due("turn of " + (length + 516), x::turn, length + 516);
            CHECKS.due("count(0)", x.count(0), length + 516);
            CHECKS.due("count(2), which stays", x.count(2), length + 516);
            CHECKS.due("use of it", x::use, length);
        }
        int[] refused = {65021, 65022};
        for (int length : refused) {
            Run x = withLongDelta(length);
            CHECKS.dueRefused("turn of " + (length + 516), STATE, x, x::turn);
            x.end(length - 1);
            CHECKS.dueRefused("turn with a short INPUT", STATE, x, x::turn);
        }
        Run longest = new Run();
        longest.putNothingOfBase(MOST);
        CHECKS.due("the longest DELTA", longest.make(), 66059);
        CHECKS.dueRefused("turn of the longest DELTA", STATE, longest, longest::turn);
        Run text = withLongInput(MOST);
        CHECKS.due("turn of 65536", text::turn, MOST);
        turnTooLongWithCopy();
    }

    /** The eighth BYTE of INPUT is changed so that the first eight stand in BASE; no count is 0. */
    private static void turnTooLongWithCopy() {
        Run x = new Run();
        x.putNothingOfBase(MOST);
        x.change(7, 144 ^ 7);
        CHECKS.dueDamaged("a long text", x);
        CHECKS.due("make", x.make(), 6 + 2 + 65528 + 516);
        CHECKS.due("COPIES", x.count(3), 1);
        CHECKS.due("NEW BYTES", x.count(4), 65528);
        CHECKS.dueRefused("turn", STATE, x, x::turn);
        CHECKS.dueRefused("feed", STATE, x, () -> x.feed(1, 2, 3, 4, 5));
    }

    private static void turnOfNothing() {
        CHECKS.says("8, INPUT is OUTPUT (which stays)");
        Run x = new Run();
        x.put(EIGHT);
        CHECKS.due("turn of nothing", x::turn, 0);
        CHECKS.due("count(0)", x.count(0), 0);
        Run y = withTexts();
        CHECKS.due("turn", y::turn, ITS_DELTA.length);
        CHECKS.dueOutput("turn", y, ITS_DELTA);
        y.change(0, 255);
        y.end(3);
        CHECKS.dueOutput("turn behind change and end of INPUT", y, ITS_DELTA);
        CHECKS.due("turn again", y::turn, ITS_DELTA.length);
        CHECKS.due("use of it", y::use, IN_INPUT);
    }

    private static void longestOfWhatIsThere() {
        CHECKS.says("9, it must be there, else bad");
        Run x = withTexts();
        int[] refused = {-1, -2, IN_INPUT, IN_INPUT + 1, MOST, LEAST_INT, LEAST_INT + 1, GREATEST_INT};
        for (int i : refused) {
            for (int what = 0; what <= 1; what++) {
                int asked = what;
                CHECKS.dueRefused("longest(" + i + ", " + what + ")", BAD, x, () -> x.longest(i, asked));
            }
        }
        for (int i = 0; i < IN_INPUT; i++) {
            int place = i;
            boolean isNine = i == 1;
            boolean isEight = i == 2 || i == 11;
            CHECKS.due("longest(" + i + ", 0)", () -> x.longest(place, 0), isNine ? 9 : isEight ? 8 : 0);
            CHECKS.due("longest(" + i + ", 1)", () -> x.longest(place, 1), isNine ? 0 : isEight ? 1 : -1);
        }
        x.end(1);
        CHECKS.dueRefused("longest of what end took", BAD, x, () -> x.longest(IN_INPUT - 1, 0));
        CHECKS.due("longest of the last one", () -> x.longest(IN_INPUT - 2, 0), 0);
    }

    private static void longestInNothing() {
        CHECKS.says("9, it must be there, else bad");
        Run x = withTexts();
        x.end(IN_INPUT);
        int[] refused = {0, 1, -1, LEAST_INT, GREATEST_INT};
        for (int i : refused) {
            CHECKS.dueRefused("longest(" + i + ", 0) of nothing", BAD, x, () -> x.longest(i, 0));
            CHECKS.dueRefused("longest(" + i + ", 1) of nothing", BAD, x, () -> x.longest(i, 1));
        }
    }

    private static void longestInAll65536() {
        CHECKS.says("9, it must be there, else bad");
        Run x = withLongInput(MOST);
        CHECKS.due("longest(65528, 0)", () -> x.longest(MOST - 8, 0), 8);
        CHECKS.due("longest(65528, 1)", () -> x.longest(MOST - 8, 1), 0);
        CHECKS.due("longest(65535, 0)", () -> x.longest(MOST - 1, 0), 0);
        CHECKS.due("longest(65535, 1)", () -> x.longest(MOST - 1, 1), -1);
        CHECKS.dueRefused("longest(65536, 0)", BAD, x, () -> x.longest(MOST, 0));
        CHECKS.dueRefused("longest(65536, 1)", BAD, x, () -> x.longest(MOST, 1));
    }

    private static void longestOfOtherWhat() {
        CHECKS.says("9, the length (what 0); the place (1); bad is a number out of range");
        Run x = withTexts();
        CHECKS.due("longest(1, 0)", () -> x.longest(1, 0), 9);
        CHECKS.due("longest(1, 1)", () -> x.longest(1, 1), 0);
        int[] refused = {-1, -2, 2, 3, 256, LEAST_INT, LEAST_INT + 1, GREATEST_INT};
        for (int what : refused) {
            CHECKS.dueRefused("longest(1, " + what + ")", BAD, x, () -> x.longest(1, what));
            CHECKS.dueRefused("longest(20, " + what + ")", BAD, x, () -> x.longest(IN_INPUT, what));
        }
    }

    /** BASE has so many of the letters of INPUT, from place 2 on, or from place 0 on. */
    private static Run withAlike(int many, boolean isFirst) {
        int[] letters = Bytes.text("abcdefghijkl");
        Run x = new Run();
        x.putBase(Bytes.join(Bytes.text(isFirst ? "" : "--"), Bytes.cut(letters, 0, many)));
        x.put(letters);
        return x;
    }

    private static void lengthBelow8() {
        CHECKS.says("9, 0 if it's below 8");
        for (int many = 0; many <= 12; many++) {
            int want = many < 8 ? 0 : many;
            CHECKS.due("longest(0, 0) with " + many, withAlike(many, false).longest(0, 0), want);
            CHECKS.due("longest(0, 0) with the first " + many, withAlike(many, true).longest(0, 0), want);
        }
        Run ending = withAlike(12, false);
        CHECKS.due("longest(4, 0), the last eight of INPUT", ending.longest(4, 0), 8);
        CHECKS.due("longest(5, 0), the last seven of INPUT", ending.longest(5, 0), 0);
        CHECKS.due("longest(11, 0), the last one of INPUT", ending.longest(11, 0), 0);
    }

    private static void placeBelow8() {
        CHECKS.says("9, -1 if it's below 8");
        for (int many = 0; many <= 12; many++) {
            CHECKS.due("longest(0, 1) with " + many, withAlike(many, false).longest(0, 1), many < 8 ? -1 : 2);
            CHECKS.due("longest(0, 1) with the first " + many, withAlike(many, true).longest(0, 1), many < 8 ? -1 : 0);
        }
        Run ending = withAlike(12, false);
        CHECKS.due("longest(4, 1), the last eight of INPUT", ending.longest(4, 1), 6);
        CHECKS.due("longest(5, 1), the last seven of INPUT", ending.longest(5, 1), -1);
        CHECKS.due("longest(11, 1), the last one of INPUT", ending.longest(11, 1), -1);
    }

    private static void letterOfWhatIsThere() {
        CHECKS.says("10, It isn't there");
        Run x = withTexts();
        int[] refused = {-1, -2, ITS_DELTA.length, ITS_DELTA.length + 1, IN_INPUT, MOST, LEAST_INT, LEAST_INT + 1,
            GREATEST_INT};
        for (int i : refused) {
            CHECKS.dueRefused("letter(" + i + ")", OUTSIDE, x, () -> x.letter(i));
        }
        for (int i = 0; i < ITS_DELTA.length; i++) {
            int place = i;
            CHECKS.due("letter(" + i + ")", () -> x.letter(place), ITS_DELTA[i]);
        }
        x.put(9, 2, 2, 0, 255);
        x.use();
        CHECKS.due("letter(0)", x.letter(0), 0);
        CHECKS.due("letter(1)", x.letter(1), 255);
        CHECKS.dueRefused("letter of what was there before", OUTSIDE, x, () -> x.letter(2));
    }

    private static void letterOfNothing() {
        CHECKS.says("10, It isn't there");
        Run x = withTexts();
        x.put(9, 0);
        x.use();
        int[] refused = {0, 1, -1, LEAST_INT, GREATEST_INT};
        for (int i : refused) {
            CHECKS.dueRefused("letter(" + i + ") of nothing", OUTSIDE, x, () -> x.letter(i));
        }
    }

    private static void letterOfLongOutputs() {
        CHECKS.says("10, It isn't there");
        Run x = withLongInput(MOST);
        CHECKS.due("letter(65535)", () -> x.letter(MOST - 1), 'h');
        CHECKS.dueRefused("letter(65536)", OUTSIDE, x, () -> x.letter(MOST));
        Run longest = new Run();
        longest.putNothingOfBase(MOST);
        longest.make();
        CHECKS.due("letter(65536)", () -> longest.letter(MOST), Run.NOTHING_OF_BASE[65018]);
        CHECKS.due("letter(66058)", () -> longest.letter(66058), Run.NOTHING_OF_BASE[65535]);
        CHECKS.dueRefused("letter(66059)", OUTSIDE, longest, () -> longest.letter(66059));
    }

    private static void countBeforeMake() {
        CHECKS.says("11, 0 before");
        Run x = new Run();
        x.putBase(EIGHT);
        x.put(8, 9, 144, 8, 1, 'x');
        x.use();
        x.turn();
        x.longest(0, 0);
        CHECKS.due("count(3)", x.count(3), 0);
        CHECKS.due("count(4)", x.count(4), 0);
        x.make();
        CHECKS.due("count(3) behind make", x.count(3), 1);
        CHECKS.due("count(4) behind make", x.count(4), 1);
    }

    private static void countOfLatestMake() {
        CHECKS.says("11, of the latest make COPIES (3) and NEW BYTES (4)");
        Run x = withTexts();
        CHECKS.due("count(3)", x.count(3), 2);
        CHECKS.due("count(4)", x.count(4), 3);
        x.turn();
        x.use();
        x.base();
        x.put(EIGHT);
        CHECKS.due("count(3) behind other calls", x.count(3), 2);
        CHECKS.due("count(4) behind other calls", x.count(4), 3);
        x.end(8);
        x.make();
        CHECKS.due("count(3) of make of nothing", x.count(3), 0);
        CHECKS.due("count(4) of make of nothing", x.count(4), 0);
        Run longest = new Run();
        longest.putNothingOfBase(MOST);
        longest.make();
        CHECKS.due("count(3) of 65536 NEW", longest.count(3), 0);
        CHECKS.due("count(4) of 65536 NEW", longest.count(4), MOST);
        Run copies = withLongInput(MOST);
        copies.make();
        CHECKS.due("count(3) of 8192 COPIES", copies.count(3), 8192);
        CHECKS.due("count(4) of 8192 COPIES", copies.count(4), 0);
    }

    private static void countOfDamaged() {
        CHECKS.says("11, how often READING was DAMAGED");
        Run x = new Run();
        x.put(EIGHT);
        x.make();
        CHECKS.due("count(5) at first", x.count(5), 0);
        for (int often = 1; often <= 3; often++) {
            CHECKS.dueDamaged("a text", x);
            CHECKS.due("count(5)", x.count(5), often);
        }
        x.turn();
        x.use();
        CHECKS.due("count(5) behind a sound one", x.count(5), 3);
        refuseAll(x);
        CHECKS.due("count(5) behind other refused calls", x.count(5), 3);
        x.base();
        x.make();
        CHECKS.due("count(5) behind other calls", x.count(5), 3);
    }

    private static void countOfOthers() {
        CHECKS.says("11, else -1");
        Run x = withTexts();
        int[] others = {-1, -2, 6, 7, 256, MOST, LEAST_INT, LEAST_INT + 1, GREATEST_INT};
        for (int what : others) {
            CHECKS.due("count(" + what + ")", () -> x.count(what), -1);
        }
        int[] counts = {IN_INPUT, 9, ITS_DELTA.length, 2, 3, 1};
        for (int what = 0; what <= 5; what++) {
            int asked = what;
            CHECKS.due("count(" + what + ")", () -> x.count(asked), counts[what]);
        }
    }

    /** All that can be refused whatever the texts are, one behind the other. */
    private static void refuseAll(Run x) {
        CHECKS.dueRefused("end(-1)", BAD, x, () -> x.end(-1));
        CHECKS.dueRefused("end(greatest)", BAD, x, () -> x.end(GREATEST_INT));
        CHECKS.dueRefused("change(-1, 0)", BAD, x, () -> x.change(-1, 0));
        CHECKS.dueRefused("change(0, 256)", BAD, x, () -> x.change(0, 256));
        CHECKS.dueRefused("longest(-1, 0)", BAD, x, () -> x.longest(-1, 0));
        CHECKS.dueRefused("longest(0, 2)", BAD, x, () -> x.longest(0, 2));
        CHECKS.dueRefused("letter(-1)", OUTSIDE, x, () -> x.letter(-1));
        CHECKS.dueRefused("letter(greatest)", OUTSIDE, x, () -> x.letter(GREATEST_INT));
    }

    private static void refusedChangesNothing() {
        CHECKS.says("What is refused changes nothing.");
        refuseAll(new Run());
        Run x = withTexts();
        refuseAll(x);
        CHECKS.dueDamaged("a text", x);
        dueSameTexts("all that was refused", x, withTexts());
        Run noInput = withTexts();
        noInput.end(IN_INPUT);
        refuseAll(noInput);
        CHECKS.dueDamaged("nothing", noInput);
        Run noBase = withTexts();
        noBase.base();
        noBase.base();
        noBase.put(EIGHT);
        refuseAll(noBase);
        CHECKS.dueDamaged("eight letters", noBase);
        Run read = withTexts();
        read.turn();
        read.use();
        refuseAll(read);
    }

    private static void refusedWithLongTexts() {
        CHECKS.says("What is refused changes nothing.");
        Run x = withLongDelta(65530);
        CHECKS.dueRefused("feed", STATE, x, () -> x.feed(1, 2, 3, 4, 5));
        CHECKS.dueRefused("turn", STATE, x, x::turn);
        CHECKS.dueDamaged("a long text", x);
        refuseAll(x);
    }
}
