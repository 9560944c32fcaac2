import java.util.Arrays;

/** Each promise by itself: ordinary inputs, the edges that the document names, wrong inputs. */
public final class PromisesTest {
    private static final Checks CHECKS = new Checks();
    private static final Class<IllegalStateException> STATE = IllegalStateException.class;
    private static final Class<IllegalArgumentException> BAD = IllegalArgumentException.class;
    private static final Class<IndexOutOfBoundsException> OUTSIDE = IndexOutOfBoundsException.class;

    public static void main(String[] args) {
        newObject();
        feed();
        end();
        change();
        base();
        makeNumbers();
        makeNew();
        makeCopies();
        useSound();
        useDamagedNumbers();
        useDamagedSteps();
        useDamagedOnLongBase();
        turn();
        longest();
        letter();
        count();
        CHECKS.finish();
    }

    private static void newObject() {
        Run x = new Run();
        for (int what = 0; what <= 5; what++) {
            CHECKS.due("1: count(" + what + ") of a new object", x.count(what), 0);
        }
        CHECKS.dueRefused("1: letter(0) of a new object", OUTSIDE, x, () -> x.letter(0));
        CHECKS.due("1: make of a new object", x.make(), 2);
        CHECKS.dueOutput("1: DELTA of a new object", x, 0, 0);
        Run y = new Run();
        CHECKS.due("1: turn of a new object", y.turn(), 0);
        CHECKS.due("1: base of a new object", y.base(), 0);
    }

    private static void feed() {
        Run x = new Run();
        CHECKS.due("2: feed", x.feed(0x00010203, 0x04050607, 0x7f8081ff, -1, 0x80000001), 20);
        CHECKS.due("2: feed again", x.feed(0x0a0b0c0d, 0, 0, 0, 0x000000fe), 40);
        x.make();
        x.turn();
        x.use();
        CHECKS.dueOutput("2: the fed BYTES", x, 0, 1, 2, 3, 4, 5, 6, 7, 127, 128, 129, 255, 255, 255, 255, 255,
                128, 0, 0, 1, 10, 11, 12, 13, 0, 0, 0, 0, 0, 0, 0, 0, 0, 0, 0, 0, 0, 0, 0, 254);
        Run full = new Run();
        full.putLong(Bytes.text("abcdefgh"), 65536);
        CHECKS.dueRefused("2: feed when full", STATE, full, () -> full.feed(1, 2, 3, 4, 5));
        full.end(19);
        CHECKS.dueRefused("2: feed with room for 19", STATE, full, () -> full.feed(1, 2, 3, 4, 5));
        CHECKS.due("2: refused feed changes nothing", full.count(0), 65517);
        full.end(1);
        CHECKS.due("2: feed with room for 20", full.feed(1, 2, 3, 4, 5), 65536);
    }

    private static void end() {
        Run x = new Run();
        CHECKS.due("3: end(0) of nothing", x.end(0), 0);
        CHECKS.dueRefused("3: end(1) of nothing", BAD, x, () -> x.end(1));
        x.put(Bytes.text("abcde"));
        CHECKS.dueRefused("3: end(-1)", BAD, x, () -> x.end(-1));
        CHECKS.dueRefused("3: end(6) of 5", BAD, x, () -> x.end(6));
        CHECKS.dueRefused("3: end(least)", BAD, x, () -> x.end(Integer.MIN_VALUE));
        CHECKS.dueRefused("3: end(greatest)", BAD, x, () -> x.end(Integer.MAX_VALUE));
        CHECKS.due("3: refused end changes nothing", x.count(0), 5);
        CHECKS.due("3: end(2)", x.end(2), 3);
        x.make();
        CHECKS.dueOutput("3: what is left", x, 0, 3, 3, 'a', 'b', 'c');
        CHECKS.due("3: end of all", x.end(3), 0);
    }

    private static void change() {
        Run x = new Run();
        CHECKS.dueRefused("4: change in nothing", BAD, x, () -> x.change(0, 1));
        x.put(0, 1, 255, 170);
        CHECKS.dueRefused("4: change(-1, 1)", BAD, x, () -> x.change(-1, 1));
        CHECKS.dueRefused("4: change(4, 1) of 4", BAD, x, () -> x.change(4, 1));
        CHECKS.dueRefused("4: change(0, -1)", BAD, x, () -> x.change(0, -1));
        CHECKS.dueRefused("4: change(0, 256)", BAD, x, () -> x.change(0, 256));
        x.change(0, 255);
        x.change(1, 0);
        x.change(2, 128);
        x.change(3, 85);
        x.make();
        CHECKS.dueOutput("4: xored", x, 0, 4, 4, 255, 1, 127, 255);
        x.change(3, 85);
        x.make();
        CHECKS.dueOutput("4: xored back", x, 0, 4, 4, 255, 1, 127, 170);
    }

    private static void base() {
        Run x = new Run();
        x.put(Bytes.text("a base of more than 20 BYTES"));
        CHECKS.due("5: base", x.base(), 28);
        CHECKS.due("5: INPUT is empty", x.count(0), 0);
        CHECKS.due("5: BASE is there", x.count(1), 28);
        x.put(Bytes.text("base of more"));
        CHECKS.due("5: found in BASE", x.longest(0, 1), 2);
        x.make();
        CHECKS.due("5: base again", x.base(), 12);
        CHECKS.due("5: OUTPUT stays", x.count(2), 5);
        x.put(Bytes.text("than 20 BYTES"));
        CHECKS.due("5: the old BASE is gone", x.longest(0, 0), 0);
        x.put(Bytes.text(".base of more"));
        CHECKS.due("5: the new BASE is there", x.longest(1, 0), 12);
        x.end(13);
        CHECKS.due("5: empty base", x.base(), 0);
        CHECKS.due("5: BASE is empty", x.count(1), 0);
    }

    private static void makeNumbers() {
        int[] lengths = {0, 1, 127, 128, 129, 255, 256, 1000};
        for (int length : lengths) {
            Run x = new Run();
            x.putBase(Bytes.repeat(length, 'b'));
            x.put('x');
            x.make();
            CHECKS.dueOutput("6: BASE of " + length, x, Bytes.join(Bytes.number(length), Bytes.row(1, 1, 'x')));
        }
        Run x = new Run();
        x.putLong(Bytes.text("abcdefgh"), 16384);
        x.base();
        x.make();
        CHECKS.dueOutput("6: BASE of 16384", x, 128, 128, 1, 0);
    }

    private static void makeNew() {
        int[] lengths = {1, 126, 127, 128, 254, 255};
        for (int length : lengths) {
            Run x = new Run();
            int[] bytes = new int[length];
            for (int i = 0; i < length; i++) {
                bytes[i] = i * 7 & 255;
            }
            x.put(bytes);
            int[] want = Bytes.join(Bytes.row(0), Bytes.number(length));
            for (int from = 0; from < length; from += 127) {
                int to = Math.min(length, from + 127);
                want = Bytes.join(want, Bytes.row(to - from), Bytes.cut(bytes, from, to));
            }
            CHECKS.due("6: length with " + length + " NEW", x.make(), want.length);
            CHECKS.dueOutput("6: " + length + " NEW", x, want);
            CHECKS.due("6: COPIES", x.count(3), 0);
            CHECKS.due("6: NEW", x.count(4), length);
            CHECKS.due("6: INPUT stays", x.count(0), length);
        }
    }

    private static void makeCopies() {
        Run x = new Run();
        x.putBase(Bytes.text("01234567"));
        x.put(Bytes.text("1234567"));
        x.make();
        CHECKS.dueOutput("6: 7 are no COPY", x, Bytes.join(Bytes.row(8, 7, 7), Bytes.text("1234567")));
        x.put(Bytes.text("01234567"));
        x.make();
        CHECKS.dueOutput("6: 8 are a COPY, place 0 has no BYTE", x, 8, 8, 144, 8);
        x.put(Bytes.text("?0123456701234567!!01234567"));
        x.make();
        CHECKS.dueOutput("6: rows of NEW between COPIES", x, 8, 27, 1, '?', 144, 8, 144, 8, 2, '!', '!', 144, 8);
        CHECKS.due("6: COPIES", x.count(3), 3);
        CHECKS.due("6: NEW", x.count(4), 3);
        CHECKS.due("6: BASE stays", x.count(1), 8);
        copyOfBytes();
        CHECKS.due("6: greedy, not the best", greedy(), 16);
    }

    private static void copyOfBytes() {
        Run x = new Run();
        int[] far = new int[600];
        for (int i = 0; i < far.length; i++) {
            far[i] = i * i / 7 + i / 256 * 3 & 255;
        }
        x.putBase(far);
        x.put(Bytes.cut(far, 256, 512));
        x.make();
        CHECKS.dueOutput("6: place 256, length 256", x, 216, 4, 128, 2, 162, 1, 1);
        x.put(Bytes.cut(far, 300, 312));
        x.make();
        CHECKS.dueOutput("6: place 300, length 12", x, 216, 4, 12, 147, 44, 1, 12);
        x.put(Bytes.cut(far, 5, 505));
        x.make();
        CHECKS.dueOutput("6: place 5, length 500", x, 216, 4, 244, 3, 177, 5, 244, 1);
    }

    /** The first COPY takes 8 letters, though one NEW letter before a longer COPY would be shorter. */
    private static int greedy() {
        Run x = new Run();
        x.putBase(Bytes.text("abcdefgh-bcdefghijklmnop"));
        x.put(Bytes.text("abcdefghijklmnop"));
        x.make();
        CHECKS.dueOutput("6: greedy", x, 24, 16, 144, 8, 145, 16, 8);
        return x.count(0);
    }

    private static void dueUse(String what, Run x, int[] delta, int... want) {
        x.put(delta);
        int inBase = x.count(1);
        CHECKS.due("7: " + what, x::use, want.length);
        CHECKS.dueOutput("7: OUTPUT of " + what, x, want);
        CHECKS.due("7: INPUT stays", x.count(0), delta.length);
        CHECKS.due("7: BASE stays", x.count(1), inBase);
        CHECKS.due("7: not DAMAGED", x.count(5), 0);
    }

    private static void useSound() {
        Run x = new Run();
        dueUse("nothing", x, Bytes.row(0, 0));
        dueUse("numbers with BYTES of 128", x, Bytes.row(128, 128, 128, 0, 129, 128, 128, 0, 1, 65), 65);
        dueUse("rows of NEW apart", x, Bytes.row(0, 3, 1, 65, 2, 0, 255), 65, 0, 255);
        dueUse("127 NEW", x, Bytes.join(Bytes.row(0, 127, 127), Bytes.repeat(127, 9)), Bytes.repeat(127, 9));
        x.putBase(Bytes.text("abcdefghij"));
        dueUse("a COPY of 1", x, Bytes.row(10, 1, 145, 9, 1), 'j');
        dueUse("a COPY of all", x, Bytes.row(10, 10, 144, 10), Bytes.text("abcdefghij"));
        dueUse("all BYTES of a COPY", x, Bytes.row(10, 3, 255, 2, 0, 0, 0, 3, 0, 0), 'c', 'd', 'e');
        dueUse("COPIES backwards", x, Bytes.row(138, 128, 128, 0, 5, 145, 8, 2, 1, '-', 144, 2),
                'i', 'j', '-', 'a', 'b');
        Run y = new Run();
        y.putLong(Bytes.text("abcdefgh"), 65536);
        y.base();
        y.put(128, 128, 4, 128, 128, 4, 128);
        CHECKS.due("7: a length of 0 without BYTES", y::use, 65536);
        y.put(128, 128, 4, 128, 128, 4, 240, 0, 0, 0);
        CHECKS.due("7: a length of 0 with BYTES", y::use, 65536);
        y.put(128, 128, 4, 128, 128, 4, 192, 1);
        CHECKS.due("7: a third BYTE of length", y::use, 65536);
        y.put(128, 128, 4, 255, 255, 3, 179, 1, 0, 255, 255);
        CHECKS.due("7: 65535 from 1 on", y::use, 65535);
        CHECKS.due("7: its last BYTE", y.letter(65534), 'h');
        y.put(128, 128, 4, 1, 147, 255, 255, 1);
        CHECKS.due("7: the last BYTE of BASE", y::use, 1);
        CHECKS.due("7: is this", y.letter(0), 'h');
    }

    private static void dueDamaged(String what, Run x, int... delta) {
        x.put(delta);
        CHECKS.dueDamaged(what, x);
    }

    private static Run withBaseAndOutput() {
        Run x = new Run();
        x.putBase(Bytes.text("abcdefghij"));
        x.put(10, 2, 1, 'x', 144, 1);
        x.use();
        return x;
    }

    private static void useDamagedNumbers() {
        Run x = withBaseAndOutput();
        dueDamaged("nothing at all", x);
        dueDamaged("one number", x, 10);
        dueDamaged("half a number", x, 138);
        dueDamaged("half a second number", x, 10, 128);
        dueDamaged("five BYTES of a number", x, 138, 128, 128, 128, 0, 1, 1, 65);
        dueDamaged("five BYTES of the second", x, 10, 129, 128, 128, 128, 0, 1, 65);
        dueDamaged("another BASE", x, 9, 1, 1, 65);
        dueDamaged("another BASE, high bits", x, 138, 1, 1, 1, 65);
        dueDamaged("another BASE, highest bits", x, 138, 128, 128, 1, 1, 1, 65);
        dueDamaged("a longer BASE", x, 11, 1, 1, 65);
        dueDamaged("65537", x, 10, 129, 128, 4);
        dueDamaged("the greatest number", x, 10, 255, 255, 255, 127);
        dueDamaged("65536 that are not made", x, 10, 128, 128, 4);
    }

    private static void useDamagedSteps() {
        Run x = withBaseAndOutput();
        dueDamaged("BYTE 0", x, 10, 0, 0);
        dueDamaged("BYTE 0 behind NEW", x, 10, 1, 1, 65, 0);
        dueDamaged("BYTE 0 before NEW", x, 10, 1, 0, 1, 65);
        dueDamaged("too few NEW", x, 10, 3, 3, 65, 66);
        dueDamaged("no NEW behind how many", x, 10, 1, 1);
        dueDamaged("makes too few", x, 10, 3, 2, 65, 66);
        dueDamaged("makes too many", x, 10, 1, 2, 65, 66);
        dueDamaged("one more NEW at the end", x, 10, 1, 1, 65, 1, 66);
        dueDamaged("one more COPY at the end", x, 10, 1, 1, 65, 144, 1);
        dueDamaged("makes nothing of 1", x, 10, 1);
        dueDamaged("COPY makes too few", x, 10, 5, 144, 4);
        dueDamaged("COPY makes too many", x, 10, 5, 144, 6);
        dueDamaged("COPY over the end of BASE", x, 10, 5, 145, 6, 5);
        dueDamaged("COPY longer than BASE", x, 10, 11, 144, 11);
        dueDamaged("COPY behind BASE", x, 10, 1, 145, 10, 1);
        dueDamaged("COPY of 65536", x, 10, 10, 128);
        dueDamaged("COPY of 65536 from 1 on", x, 10, 9, 129, 1);
        dueDamaged("second BYTE of the place", x, 10, 1, 146, 1, 1);
        dueDamaged("third BYTE of the place", x, 10, 1, 148, 1, 1);
        dueDamaged("fourth BYTE of the place", x, 10, 1, 152, 1, 1);
        dueDamaged("place with the highest bit", x, 10, 1, 152, 128, 1);
        dueDamaged("the greatest place", x, 10, 1, 159, 255, 255, 255, 255, 1);
        dueDamaged("second BYTE of the length", x, 10, 1, 176, 1, 1);
        dueDamaged("third BYTE of the length", x, 10, 1, 208, 1, 1);
        dueDamaged("the greatest length", x, 10, 1, 240, 255, 255, 255);
        dueDamaged("no BYTE of the length", x, 10, 1, 144);
        dueDamaged("no BYTE of the place", x, 10, 1, 145);
        dueDamaged("place, but no length", x, 10, 1, 145, 1);
        dueDamaged("two of three BYTES of length", x, 10, 1, 240, 1, 0);
        CHECKS.due("7: refused ones leave what make counted", x.count(3), 0);
    }

    /** Where a COPY of 65536 would fit, so that only what is missing or too much is DAMAGED. */
    private static void useDamagedOnLongBase() {
        Run x = new Run();
        x.putLong(Bytes.text("abcdefgh"), 65536);
        x.base();
        int[] whole = {128, 128, 4, 128, 128, 4};
        int[][] wrong = {{129}, {144}, {176, 0}, {240, 0, 0}, {128, 128}, {128, 1, 65}, {1, 65, 128}, {129, 1}, {}};
        for (int[] steps : wrong) {
            x.put(Bytes.join(whole, steps));
            CHECKS.dueDamaged("7: 65536 by " + Arrays.toString(steps), x);
        }
        x.put(128, 128, 4, 129, 128, 4, 128, 1, 65);
        CHECKS.dueDamaged("7: 65537 that are made", x);
        CHECKS.due("7: all were DAMAGED", x.count(5), wrong.length + 1);
        CHECKS.due("7: OUTPUT stays", x.count(2), 65536);
    }

    private static void turn() {
        Run x = new Run();
        x.put(Bytes.text("text"));
        x.make();
        CHECKS.due("8: turn", x.turn(), 7);
        CHECKS.due("8: INPUT is as long", x.count(0), 7);
        CHECKS.due("8: OUTPUT stays", x.count(2), 7);
        x.change(3, 1);
        CHECKS.dueOutput("8: OUTPUT is another row", x, 0, 4, 4, 't', 'e', 'x', 't');
        x.use();
        CHECKS.dueOutput("8: INPUT was OUTPUT", x, 'u', 'e', 'x', 't');
        Run full = new Run();
        full.putLong(Bytes.text("abcdefgh"), 65536);
        CHECKS.due("8: turn of 65536", full.turn(), 65536);
        makeAllNew(full, 65018);
        CHECKS.due("8: turn of two less than go", full.turn(), 65534);
        makeAllNew(full, 65020);
        CHECKS.due("8: turn of as many as go", full.turn(), 65536);
        makeAllNew(full, 65021);
        CHECKS.dueRefused("8: turn of one too many", STATE, full, full::turn);
        CHECKS.due("8: refused turn leaves INPUT", full.count(0), 65021);
        CHECKS.due("8: refused turn leaves OUTPUT", full.count(2), 65537);
        Run none = new Run();
        none.put(Bytes.text("gone"));
        CHECKS.due("8: turn of nothing", none.turn(), 0);
        CHECKS.due("8: INPUT is nothing", none.count(0), 0);
    }

    /** OUTPUT is the DELTA of a text of so many BYTES on nothing: 512 rows of NEW. */
    private static void makeAllNew(Run x, int length) {
        x.putLong(Bytes.text("abcdefgh"), length);
        x.base();
        x.base();
        x.turn();
        CHECKS.due("8: DELTA of " + length, x.make(), length + 512 + 4);
    }

    private static void longest() {
        Run x = new Run();
        CHECKS.dueRefused("9: longest in nothing", BAD, x, () -> x.longest(0, 0));
        x.putBase(Bytes.text("xxabcdefghyabcdefghizabcdefghi"));
        x.put(Bytes.text("abcdefghiz-abcdefgh"));
        CHECKS.due("9: length", x.longest(0, 0), 10);
        CHECKS.due("9: place", x.longest(0, 1), 11);
        CHECKS.due("9: length to the end of INPUT", x.longest(11, 0), 8);
        CHECKS.due("9: the least place", x.longest(11, 1), 2);
        CHECKS.due("9: length below 8", x.longest(3, 0), 0);
        CHECKS.due("9: place below 8", x.longest(3, 1), -1);
        CHECKS.due("9: of the last BYTE", x.longest(18, 0), 0);
        CHECKS.due("9: just 8", x.longest(2, 0), 8);
        CHECKS.due("9: place of just 8", x.longest(2, 1), 13);
        CHECKS.dueRefused("9: longest(-1, 0)", BAD, x, () -> x.longest(-1, 0));
        CHECKS.dueRefused("9: longest(19, 0) of 19", BAD, x, () -> x.longest(19, 0));
        CHECKS.dueRefused("9: longest(0, -1)", BAD, x, () -> x.longest(0, -1));
        CHECKS.dueRefused("9: longest(0, 2)", BAD, x, () -> x.longest(0, 2));
        x.change(5, 1);
        CHECKS.due("9: after a change", x.longest(0, 0), 0);
        CHECKS.due("9: changes no OUTPUT", x.count(2), 0);
        CHECKS.due("9: counts no COPIES", x.count(3), 0);
        Run full = new Run();
        full.putLong(Bytes.text("abcdefgh"), 65536);
        full.base();
        full.turn();
        CHECKS.due("9: at most 65535", full.longest(0, 0), 65535);
        CHECKS.due("9: at place 0", full.longest(0, 1), 0);
        CHECKS.due("9: 65535 from 1 on", full.longest(1, 0), 65535);
        CHECKS.due("9: at place 1", full.longest(1, 1), 1);
        CHECKS.due("9: 8 at the end", full.longest(65528, 0), 8);
        CHECKS.due("9: 7 at the end", full.longest(65529, 0), 0);
        CHECKS.due("9: make of 65536", full.make(), 11);
        CHECKS.dueOutput("9: DELTA with the longest COPY", full, 128, 128, 4, 128, 128, 4, 176, 255, 255, 1, 'h');
    }

    private static void letter() {
        Run x = new Run();
        CHECKS.dueRefused("10: letter(0) of nothing", OUTSIDE, x, () -> x.letter(0));
        x.put(0, 127, 128, 255);
        x.make();
        CHECKS.due("10: first", x.letter(0), 0);
        CHECKS.due("10: 0", x.letter(3), 0);
        CHECKS.due("10: 127", x.letter(4), 127);
        CHECKS.due("10: 128", x.letter(5), 128);
        CHECKS.due("10: 255", x.letter(6), 255);
        CHECKS.dueRefused("10: letter(7) of 7", OUTSIDE, x, () -> x.letter(7));
        CHECKS.dueRefused("10: letter(-1)", OUTSIDE, x, () -> x.letter(-1));
        CHECKS.dueRefused("10: letter(least)", OUTSIDE, x, () -> x.letter(Integer.MIN_VALUE));
        x.end(4);
        x.make();
        CHECKS.dueRefused("10: letter of what was there before", OUTSIDE, x, () -> x.letter(2));
    }

    private static void count() {
        Run x = new Run();
        int[] others = {-1, 6, 7, Integer.MIN_VALUE, Integer.MAX_VALUE};
        for (int what : others) {
            CHECKS.due("11: count(" + what + ")", x.count(what), -1);
        }
        x.putBase(Bytes.text("twelve bytes"));
        x.put(Bytes.text("twelve bytes and eight"));
        x.make();
        CHECKS.due("11: INPUT", x.count(0), 22);
        CHECKS.due("11: BASE", x.count(1), 12);
        CHECKS.due("11: OUTPUT", x.count(2), 15);
        CHECKS.due("11: COPIES", x.count(3), 1);
        CHECKS.due("11: NEW", x.count(4), 10);
        CHECKS.dueDamaged("11: a text is no DELTA", x);
        CHECKS.dueDamaged("11: nor the second time", x);
        CHECKS.due("11: DAMAGED", x.count(5), 2);
        x.turn();
        x.use();
        x.base();
        CHECKS.due("11: COPIES of the latest make", x.count(3), 1);
        CHECKS.due("11: NEW of the latest make", x.count(4), 10);
        CHECKS.due("11: DAMAGED stays", x.count(5), 2);
        x.make();
        CHECKS.due("11: COPIES of an empty make", x.count(3), 0);
        CHECKS.due("11: NEW of an empty make", x.count(4), 0);
    }
}
