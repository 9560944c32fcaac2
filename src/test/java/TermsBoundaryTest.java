/** "What it is" and "Terms", but for READING: each sentence that names a boundary, on both sides of it. */
public final class TermsBoundaryTest {
    private static final Checks CHECKS = new Checks();
    private static final Class<IllegalStateException> STATE = IllegalStateException.class;
    private static final Class<IllegalArgumentException> BAD = IllegalArgumentException.class;
    private static final Class<IndexOutOfBoundsException> OUTSIDE = IndexOutOfBoundsException.class;
    private static final int MOST = 65536;
    private static final int[] EIGHT = Bytes.text("abcdefgh");

    public static void main(String[] args) {
        allCallsOf512();
        eachCallAs512th();
        callsBehind512();
        inputOfAtMost65536();
        baseOfAtMost65536();
        outputOfAnyLength();
        emptyAtFirst();
        greatestLength();
        atMost65535();
        leastPlace();
        lastPlaces();
        sevenBitsOfBase();
        sevenBitsOfInput();
        eightOrMore();
        bytesOfPlace();
        bytesOfLength();
        rowsOf127();
        rowsOf127RoundCopies();
        CHECKS.finish();
    }

    private static void allCallsOf512() {
        CHECKS.says("An object is used for at most 512 calls");
        Run fed = new Run();
        for (int k = 1; k <= 512; k++) {
            CHECKS.due("feed " + k, fed.feed(k, k, k, k, k), 20 * k);
        }
        Run damaged = new Run();
        for (int k = 1; k <= 511; k++) {
            CHECKS.dueThrow("use " + k, ArithmeticException.class, damaged::use);
        }
        CHECKS.due("count(5), the 512th call", damaged.count(5), 511);
        Run x = new Run();
        until512("end(0)", x, () -> x.end(0), 0);
        Run y = new Run();
        until512("base", y, y::base, 0);
        Run z = new Run();
        until512("count(6)", z, () -> z.count(6), -1);
        eachUntil512();
    }

    private static void until512(String what, Run x, Checks.Call call, int want) {
        while (x.calls() < 512) {
            CHECKS.due(what + ", call " + (x.calls() + 1), call, want);
        }
    }

    private static void eachUntil512() {
        Run made = withItself();
        until512("make", made, made::make, 7);
        Run used = withItself();
        until512("use", used, used::use, 8);
        Run turned = withItself();
        until512("turn", turned, turned::turn, 4);
        Run looked = withItself();
        looked.put(EIGHT);
        until512("longest", looked, () -> looked.longest(0, 0), 8);
        Run read = withItself();
        until512("letter", read, () -> read.letter(3), 8);
        Run changed = withItself();
        while (changed.calls() < 509) {
            changed.change(3, 1);
            changed.change(3, 1);
        }
        changed.change(3, 1);
        CHECKS.due("make behind 500 changes", changed.make(), 7);
        CHECKS.due("the BYTE changed an odd number of times, the 512th call", changed.letter(6), 9);
    }

    /** BASE is eight letters, INPUT and OUTPUT are their DELTA on themselves. */
    private static Run withItself() {
        Run x = new Run();
        x.putBase(EIGHT);
        x.put(EIGHT);
        x.make();
        x.turn();
        return x;
    }

    private static Run after511() {
        Run x = withItself();
        while (x.calls() < 511) {
            CHECKS.due("call " + (x.calls() + 1), x.count(0), 4);
        }
        return x;
    }

    private static void eachCallAs512th() {
        CHECKS.says("An object is used for at most 512 calls");
        CHECKS.due("feed", after511().feed(1, 2, 3, 4, 5), 24);
        CHECKS.due("end", after511().end(4), 0);
        CHECKS.due("change", after511().change(3, 255), 0);
        CHECKS.due("base", after511().base(), 4);
        CHECKS.due("make", after511().make(), 7);
        CHECKS.due("use", after511().use(), 8);
        CHECKS.due("turn", after511().turn(), 4);
        CHECKS.due("longest", after511().longest(3, 1), -1);
        CHECKS.due("letter", after511().letter(2), 144);
        CHECKS.due("count", after511().count(3), 1);
        CHECKS.dueThrow("end(5)", BAD, () -> after511().end(5));
        CHECKS.dueThrow("change(4, 0)", BAD, () -> after511().change(4, 0));
        CHECKS.dueThrow("longest(4, 0)", BAD, () -> after511().longest(4, 0));
        CHECKS.dueThrow("letter(4)", OUTSIDE, () -> after511().letter(4));
    }

    /** Their answers are free; but by LANGUAGE.md 7 they end and throw nothing by themselves. */
    private static void callsBehind512() {
        CHECKS.says("what later calls answer is free");
        DeltaPress x = new DeltaPress();
        for (int k = 0; k < 512; k++) {
            x.feed(k, k, k, k, k);
        }
        for (int k = 0; k < 8; k++) {
            int number = k - 1;
            mayAnswer(() -> x.feed(1, 2, 3, 4, 5));
            mayAnswer(() -> x.end(number));
            mayAnswer(() -> {
                x.change(number, number);
                return 0;
            });
            mayAnswer(x::make);
            mayAnswer(x::base);
            mayAnswer(x::use);
            mayAnswer(x::turn);
            mayAnswer(() -> x.longest(number, number));
            mayAnswer(() -> x.letter(number));
            mayAnswer(() -> x.count(number));
        }
    }

    private static void mayAnswer(Checks.Call call) {
        String outcome = Checks.outcome(call);
        boolean isFine = outcome.matches("-?\\d+"
                + "|throws\\.(IllegalState|IllegalArgument|IndexOutOfBounds|Arithmetic)Exception");
        CHECKS.due(outcome + " behind 512 calls is allowed (1, else 0):", isFine ? 1 : 0, 1);
    }

    /** INPUT is so many BYTES of a text with a period of eight, BASE nothing. */
    private static Run withInput(int length) {
        return Run.withLong(EIGHT, length);
    }

    private static void inputOfAtMost65536() {
        CHECKS.says("TEXTS of at most 65536 BYTES");
        Run x = withInput(MOST);
        CHECKS.due("INPUT of 65536 by turn", x.count(0), MOST);
        CHECKS.dueRefused("feed when full", STATE, x, () -> x.feed(1, 2, 3, 4, 5));
        x.end(19);
        CHECKS.dueRefused("feed with room for 19", STATE, x, () -> x.feed(1, 2, 3, 4, 5));
        x.end(1);
        CHECKS.due("feed with room for 20", () -> x.feed(1, 2, 3, 4, 5), MOST);
    }

    private static void baseOfAtMost65536() {
        CHECKS.says("TEXTS of at most 65536 BYTES");
        for (int length = MOST - 1; length <= MOST; length++) {
            Run x = withInput(length);
            CHECKS.due("base()", x.base(), length);
            CHECKS.due("count(1)", x.count(1), length);
            x.put(Bytes.text("bcdefgha"));
            CHECKS.due("BASE of " + length + " is there", x.longest(0, 1), 1);
        }
    }

    private static void outputOfAnyLength() {
        CHECKS.says("OUTPUT any TEXT");
        int[][] lengthsAndDeltas = {{65020, 65536}, {65021, 65537}, {MOST, 66057}};
        for (int[] lengths : lengthsAndDeltas) {
            Run x = withInput(lengths[0]);
            CHECKS.due("make of " + lengths[0], x.make(), lengths[1]);
            CHECKS.due("count(2)", x.count(2), lengths[1]);
            CHECKS.dueOutput("make of " + lengths[0], x, allNew(Bytes.row(0), Bytes.repeat(8192, EIGHT), lengths[0]));
            CHECKS.dueRefused("letter behind OUTPUT", OUTSIDE, x, () -> x.letter(lengths[1]));
        }
        // Whichever row an object keeps OUTPUT in behind an even or odd number of readings, it must be long enough.
        for (int readings = 0; readings <= 1; readings++) {
            Run x = new Run();
            x.put(0, 0);
            for (int k = 0; k < readings; k++) {
                x.use();
            }
            x.putNothingOfBase(MOST);
            CHECKS.due("the longest DELTA", x::make, 66059);
            CHECKS.dueOutput("the longest DELTA", x, allNew(Bytes.row(128, 128, 4), Run.NOTHING_OF_BASE, MOST));
        }
    }

    private static int[] allNew(int[] lengthOfBase, int[] text, int length) {
        int[] rows = {};
        for (int from = 0; from < length; from += 127) {
            int to = Math.min(length, from + 127);
            rows = Bytes.join(rows, Bytes.row(to - from), Bytes.cut(text, from, to));
        }
        return Bytes.join(lengthOfBase, Bytes.number(length), rows);
    }

    private static void emptyAtFirst() {
        CHECKS.says("all are empty at first");
        Run x = new Run();
        CHECKS.due("INPUT", x.count(0), 0);
        CHECKS.due("BASE", x.count(1), 0);
        CHECKS.due("OUTPUT", x.count(2), 0);
        CHECKS.dueRefused("letter(0)", OUTSIDE, x, () -> x.letter(0));
        CHECKS.dueRefused("longest(0, 0)", BAD, x, () -> x.longest(0, 0));
        CHECKS.due("make", x.make(), 2);
        CHECKS.dueOutput("make", x, 0, 0);
    }

    private static void dueLongest(String what, Run x, int i, int length, int place) {
        CHECKS.due(what + ": the length at " + i, () -> x.longest(i, 0), length);
        CHECKS.due(what + ": the place at " + i, () -> x.longest(i, 1), place);
    }

    private static void greatestLength() {
        CHECKS.says("LONGEST, the greatest length");
        Run x = new Run();
        x.putBase(Bytes.text("abcdefgh-abcdefghi-abcdefghij-abcdefgh"));
        x.put(Bytes.text("abcdefghijk"));
        dueLongest("to another BYTE of BASE", x, 0, 10, 19);
        x.end(1);
        dueLongest("to the end of INPUT", x, 0, 10, 19);
        x.end(1);
        dueLongest("one less", x, 0, 9, 9);
        x.end(1);
        dueLongest("two less", x, 0, 8, 0);
        x.end(1);
        dueLongest("three less", x, 0, 0, -1);
        x.put(Bytes.text("j-abcdefghi"));
        dueLongest("to the end of BASE", x, 0, 10, 28);
    }

    private static void atMost65535() {
        CHECKS.says("LONGEST, at most 65535");
        for (int length = MOST - 2; length <= MOST; length++) {
            Run x = withInput(length);
            x.base();
            x.turn();
            dueLongest("all of " + length, x, 0, Math.min(length, 65535), 0);
            dueLongest("all but one of " + length, x, 1, length - 1, 1);
            dueLongest("all but two of " + length, x, 2, length - 2, 2);
            dueLongest("the last eight of " + length, x, length - 8, 8, length % 8);
            dueLongest("the last seven of " + length, x, length - 7, 0, -1);
        }
        Run same = new Run();
        same.putLong(Bytes.row('a'), MOST);
        same.base();
        same.turn();
        dueLongest("65536 times the same", same, 0, 65535, 0);
        dueLongest("65535 times the same", same, 1, 65535, 0);
        dueLongest("65534 times the same", same, 2, 65534, 0);
    }

    private static void leastPlace() {
        CHECKS.says("LONGEST, the least place there for it");
        Run x = new Run();
        x.putBase(Bytes.text("01234567-01234567+01234567-01234567"));
        x.put(Bytes.text("01234567+1234567-01234567"));
        dueLongest("one of four", x, 17, 8, 0);
        dueLongest("one of one", x, 0, 9, 9);
        dueLongest("one of two", x, 9, 16, 1);
        x.put(Bytes.text("01234567"));
        dueLongest("at place 0", x, 0, 8, 0);
        Run y = new Run();
        y.putLong(Bytes.row('a'), MOST);
        y.change(0, 'a' ^ 'b');
        y.base();
        y.turn();
        dueLongest("65535 at place 1", y, 0, 65535, 1);
        dueLongest("65534 at place 1", y, 2, 65534, 1);
        dueLongest("eight at place 1", y, MOST - 8, 8, 1);
    }

    private static void lastPlaces() {
        CHECKS.says("LONGEST, the least place there for it");
        Run x = new Run();
        x.putLong(Bytes.row('x'), MOST);
        x.end(20);
        x.feed(0x78787878, 0x78787878, 0x78787878, 0x61626364, 0x65666768);
        x.base();
        x.put(Bytes.text("xabcdefgh"));
        dueLongest("nine at the end of BASE", x, 0, 9, 65527);
        dueLongest("eight at the end of BASE", x, 1, 8, 65528);
        dueLongest("seven at the end of BASE", x, 2, 0, -1);
    }

    /** The number's BYTES, written out. */
    private static final int[][] NUMBERS = {
        {0, 0}, {1, 1}, {127, 127}, {128, 128, 1}, {129, 129, 1}, {255, 255, 1}, {256, 128, 2}, {16383, 255, 127},
        {16384, 128, 128, 1}, {16385, 129, 128, 1}, {65535, 255, 255, 3}, {65536, 128, 128, 4},
    };

    private static void sevenBitsOfBase() {
        CHECKS.says("numbers of 7 bits a BYTE, lowest first, 128 added to all but the last, of BASE");
        for (int[] number : NUMBERS) {
            Run x = withInput(number[0]);
            x.base();
            int[] bytes = Bytes.cut(number, 1, number.length);
            CHECKS.due("make on " + number[0], x.make(), bytes.length + 1);
            CHECKS.dueOutput("make on " + number[0], x, Bytes.join(bytes, Bytes.row(0)));
            x.turn();
            CHECKS.due("use on " + number[0], x::use, 0);
        }
    }

    private static void sevenBitsOfInput() {
        CHECKS.says("numbers of 7 bits a BYTE, lowest first, 128 added to all but the last, of INPUT");
        for (int[] number : NUMBERS) {
            Run x = withInput(number[0]);
            int rows = (number[0] + 126) / 127;
            int bytes = number.length - 1;
            CHECKS.due("make of " + number[0], x.make(), 1 + bytes + rows + number[0]);
            CHECKS.due("its first BYTE, the length of BASE", x.letter(0), 0);
            for (int k = 1; k <= bytes; k++) {
                CHECKS.due("BYTE " + k + " of make of " + number[0], x.letter(k), number[k]);
            }
        }
    }

    private static void dueMake(String what, Run x, String text, int... want) {
        x.put(Bytes.text(text));
        CHECKS.due("make of " + what, x.make(), want.length);
        CHECKS.dueOutput("make of " + what, x, want);
    }

    private static void eightOrMore() {
        CHECKS.says("if the LONGEST is of 8 or more");
        Run x = new Run();
        x.putBase(Bytes.text("-abcdefghi"));
        dueMake("seven", x, "abcdefg", 10, 7, 7, 'a', 'b', 'c', 'd', 'e', 'f', 'g');
        dueMake("eight", x, "abcdefgh", 10, 8, 145, 1, 8);
        dueMake("nine", x, "abcdefghi", 10, 9, 145, 1, 9);
        dueMake("all ten", x, "-abcdefghi", 10, 10, 144, 10);
        dueMake("seven behind NEW", x, "?cdefghi", 10, 8, 8, '?', 'c', 'd', 'e', 'f', 'g', 'h', 'i');
        dueMake("eight behind NEW", x, "?bcdefghi", 10, 9, 1, '?', 145, 2, 8);
        dueMake("seven behind a COPY", x, "-abcdefghiabcdefg", 10, 17, 144, 10, 7, 'a', 'b', 'c', 'd', 'e', 'f', 'g');
        dueMake("eight behind a COPY", x, "-abcdefghiabcdefgh", 10, 18, 144, 10, 145, 1, 8);
        Run short7 = new Run();
        short7.putBase(Bytes.text("abcdefg"));
        dueMake("what BASE of seven has", short7, "abcdefg", 7, 7, 7, 'a', 'b', 'c', 'd', 'e', 'f', 'g');
    }

    /** BASE is 65536 letters of which eight, from this place on, stand nowhere else; they are INPUT. */
    private static Run withEightAt(int place) {
        Run x = new Run();
        x.putLong(Bytes.row('x'), MOST);
        for (int k = 0; k < 8; k++) {
            x.change(place + k, 'x' ^ EIGHT[k]);
        }
        x.base();
        x.put(EIGHT);
        return x;
    }

    private static void bytesOfPlace() {
        CHECKS.says("those of the four BYTES of the place in BASE, lowest first, that aren't 0");
        int[][] placesAndCopies = {
            {0, 144, 8}, {1, 145, 1, 8}, {255, 145, 255, 8}, {256, 146, 1, 8}, {257, 147, 1, 1, 8},
            {512, 146, 2, 8}, {65279, 147, 255, 254, 8}, {65280, 146, 255, 8}, {65281, 147, 1, 255, 8},
            {65527, 147, 247, 255, 8}, {65528, 147, 248, 255, 8},
        };
        for (int[] copy : placesAndCopies) {
            Run x = withEightAt(copy[0]);
            int[] want = Bytes.join(Bytes.row(128, 128, 4, 8), Bytes.cut(copy, 1, copy.length));
            CHECKS.due("make of eight at " + copy[0], x.make(), want.length);
            CHECKS.dueOutput("make of eight at " + copy[0], x, want);
        }
    }

    private static void bytesOfLength() {
        CHECKS.says("bits 4 and 5 for those of the two of the length");
        int[][] lengthsAndCopies = {
            {8, 144, 8}, {255, 144, 255}, {256, 160, 1}, {257, 176, 1, 1}, {511, 176, 255, 1}, {512, 160, 2},
            {65279, 176, 255, 254}, {65280, 160, 255}, {65281, 176, 1, 255}, {65535, 176, 255, 255},
            {65536, 176, 255, 255, 1, 'a'},
        };
        for (int[] copy : lengthsAndCopies) {
            Run x = new Run();
            x.putLong(Bytes.row('a'), MOST);
            x.base();
            x.turn();
            x.end(MOST - copy[0]);
            int[] want = Bytes.join(Bytes.row(128, 128, 4), Bytes.number(copy[0]), Bytes.cut(copy, 1, copy.length));
            CHECKS.due("make of " + copy[0], x.make(), want.length);
            CHECKS.dueOutput("make of " + copy[0], x, want);
        }
    }

    private static void rowsOf127() {
        CHECKS.says("127 each, the last ones fewer");
        int[] lengths = {1, 2, 126, 127, 128, 129, 253, 254, 255, 380, 381, 382};
        for (int length : lengths) {
            Run x = new Run();
            int[] bytes = Bytes.differing(length);
            x.put(bytes);
            int[] want = allNew(Bytes.row(0), bytes, length);
            CHECKS.due("make of " + length, x.make(), want.length);
            CHECKS.dueOutput("make of " + length, x, want);
            CHECKS.due("NEW BYTES", x.count(4), length);
        }
    }

    private static void rowsOf127RoundCopies() {
        CHECKS.says("127 each, the last ones fewer");
        int[][] rowsAndParts = {{126, 126}, {127, 127}, {128, 127, 1}, {254, 127, 127}, {255, 127, 127, 1}};
        for (int[] row : rowsAndParts) {
            int[] bytes = Bytes.repeat(row[0], '?');
            int[] rows = {};
            for (int k = 1; k < row.length; k++) {
                rows = Bytes.join(rows, Bytes.row(row[k]), Bytes.repeat(row[k], '?'));
            }
            Run x = new Run();
            x.putBase(EIGHT);
            x.put(Bytes.join(bytes, EIGHT, bytes, EIGHT, EIGHT, Bytes.row('?')));
            x.make();
            CHECKS.dueOutput("make of twice " + row[0], x, Bytes.join(Bytes.row(8), Bytes.number(2 * row[0] + 25), rows,
                    Bytes.row(144, 8), rows, Bytes.row(144, 8, 144, 8, 1, '?')));
            CHECKS.due("COPIES", x.count(3), 3);
            CHECKS.due("NEW BYTES", x.count(4), 2 * row[0] + 1);
        }
    }
}
