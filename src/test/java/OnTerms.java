import java.util.Arrays;
import java.util.stream.IntStream;

/** What the words of "What it is" and "Terms" come to, but for those on READING and on what is refused. */
final class OnTerms {
    private static final Class<IllegalStateException> STATE = IllegalStateException.class;
    private static final Class<IllegalArgumentException> BAD = IllegalArgumentException.class;
    private static final Class<IndexOutOfBoundsException> OUTSIDE = IndexOutOfBoundsException.class;
    private static final int MOST = 65536;
    private static final int[] EIGHT = Bytes.text("abcdefgh");
    private static final int[] FOX = Bytes.text("the quick brown fox jumps over the lazy dog");
    private static final int[] DOG = Bytes.text("a quick brown dog jumps over the lazy dog and the quick brown fox");
    private static final int[] DOG_ON_FOX = {43, 65, 1, 'a', 145, 3, 13, 3, 'd', 'o', 'g', 145, 19, 24,
        5, ' ', 'a', 'n', 'd', ' ', 144, 19};

    private final Checks checks;

    OnTerms(Checks checks) {
        this.checks = checks;
    }

    private static Run with(int[] base, int... input) {
        Run x = new Run();
        x.putBase(base);
        x.put(input);
        return x;
    }

    /** INPUT is so many BYTES with a period of eight, BASE nothing. */
    private static Run withLong(int length) {
        return Run.withLong(EIGHT, length);
    }

    /** The DELTA, and that it makes INPUT again. */
    private void dueDelta(String what, Run x, int[] input, int... want) {
        checks.due("make of " + what, x::make, want.length);
        checks.dueOutput("make of " + what, x, want);
        checks.due("turn of it", x::turn, want.length);
        checks.due("use of it", x::use, input.length);
        checks.dueOutput("use of it", x, input);
    }

    private void dueDelta(String base, String input, int... want) {
        int[] text = Bytes.text(input);
        dueDelta(input + " on " + base, with(Bytes.text(base), text), text, want);
    }

    void copiesAndWhatIsNew() {
        dueDelta("the dog on the fox", with(FOX, DOG), DOG, DOG_ON_FOX);
        dueDelta("the fox on itself", with(FOX, FOX), FOX, 43, 43, 144, 43);
        dueDelta("the fox on nothing", with(Bytes.row(), FOX), FOX, Bytes.join(Bytes.row(0, 43, 43), FOX));
        dueDelta("nothing on the fox", with(FOX), Bytes.row(), 43, 0);
    }

    /** By whatever calls the texts came. */
    void madeInOneWay() {
        Run again = with(FOX, DOG);
        again.make();
        dueDelta("the dog, again", again, DOG, DOG_ON_FOX);
        Run changed = with(FOX, DOG);
        changed.change(5, 200);
        changed.make();
        changed.longest(6, 0);
        changed.change(5, 200);
        dueDelta("the dog, changed and changed back", changed, DOG, DOG_ON_FOX);
        Run read = with(DOG, FOX);
        read.make();
        read.base();
        read.put(43, 3, 144, 3);
        read.use();
        read.put(Bytes.join(Bytes.row(43, 65, 65), DOG));
        read.use();
        read.turn();
        dueDelta("the dog, read", read, DOG, DOG_ON_FOX);
    }

    void readInEveryWay() {
        int[][] ways = {
            {8, 8, 144, 8},
            {8, 8, 8, 'a', 'b', 'c', 'd', 'e', 'f', 'g', 'h'},
            {8, 8, 1, 'a', 7, 'b', 'c', 'd', 'e', 'f', 'g', 'h'},
            {8, 8, 144, 3, 145, 3, 5},
            {8, 8, 144, 4, 4, 'e', 'f', 'g', 'h'},
            {8, 8, 2, 'a', 'b', 145, 2, 6},
            {136, 0, 136, 128, 128, 0, 255, 0, 0, 0, 0, 8, 0, 0},
        };
        for (int[] way : ways) {
            Run x = with(EIGHT, way);
            checks.due("use of " + Arrays.toString(way), x::use, 8);
            checks.dueOutput("use of " + Arrays.toString(way), x, EIGHT);
        }
    }

    void atMost512Calls() {
        Run x = new Run();
        for (int k = 1; k <= 510; k++) {
            checks.due("feed " + k, x.feed(k, k, k, k, k), 20 * k);
        }
        checks.due("make, the 511th call", x::make, 10200 + 3 + 81);
        checks.due("letter, the 512th call", () -> x.letter(7), 1);
    }

    void bytes() {
        int[] all = IntStream.range(0, 256).toArray();
        Run x = with(Bytes.row(), all);
        x.make();
        x.turn();
        x.use();
        for (int i = 0; i < 256; i++) {
            int place = i;
            checks.due("letter(" + i + ")", () -> x.letter(place), i);
        }
    }

    void rows() {
        checks.dueInput("a row with the same BYTE again", with(EIGHT, 3, 1, 2, 2, 1, 3), 3, 1, 2, 2, 1, 3);
        Run backwards = with(EIGHT, Bytes.text("hgfedcba"));
        checks.due("COPIES of a row backwards", backwards.longest(0, 0), 0);
        checks.dueInput("a row backwards", backwards, Bytes.text("hgfedcba"));
        checks.dueBase("a row", backwards, EIGHT);
    }

    void inputAndBase() {
        Run x = withLong(MOST);
        checks.due("INPUT", x.count(0), MOST);
        checks.dueRefused("feed to 65556", STATE, x, () -> x.feed(1, 2, 3, 4, 5));
        checks.due("base", x::base, MOST);
        checks.due("BASE", x.count(1), MOST);
        checks.dueBase("65536", x, Bytes.repeat(MOST / 8, EIGHT));
    }

    void anyOutput() {
        checks.due("make of 65020 NEW", withLong(65020)::make, 65536);
        Run x = withLong(65021);
        checks.due("make of 65021 NEW", x::make, 65537);
        checks.due("OUTPUT", x.count(2), 65537);
        checks.due("its last BYTE", () -> x.letter(65536), 'e');
        checks.due("make of 65536 NEW", withLong(MOST)::make, 66057);
        Run empty = with(EIGHT, 8, 0);
        checks.due("use that makes nothing", empty::use, 0);
    }

    void emptyAtFirst() {
        Run x = new Run();
        checks.due("INPUT", x.count(0), 0);
        checks.due("BASE", x.count(1), 0);
        checks.due("OUTPUT", x.count(2), 0);
        checks.dueRefused("end(1)", BAD, x, () -> x.end(1));
        checks.dueRefused("letter(0)", OUTSIDE, x, () -> x.letter(0));
        checks.due("turn", x::turn, 0);
        dueDelta("nothing on nothing", x, Bytes.row(), 0, 0);
    }

    private void dueLongest(Run x, int i, int length, int place) {
        checks.due("longest(" + i + ", 0)", () -> x.longest(i, 0), length);
        checks.due("longest(" + i + ", 1)", () -> x.longest(i, 1), place);
    }

    void greatestLength() {
        Run x = with(Bytes.text("abcdefgh-abcdefghij-abcdefghi"), Bytes.text("abcdefghijk"));
        dueLongest(x, 0, 10, 9);
        x.end(2);
        dueLongest(x, 0, 9, 9);
        x.end(1);
        dueLongest(x, 0, 8, 0);
        Run y = with(Bytes.text("abcdefgh-abcdefghi-abcdefghij-abcdefghijk"), Bytes.text("abcdefghijkl"));
        dueLongest(y, 0, 11, 30);
        dueLongest(y, 1, 10, 31);
        dueLongest(with(FOX, FOX), 0, 43, 0);
        dueLongest(with(Bytes.text("aaaaaaaaa"), Bytes.text("aaaaaaaaaaaaaaa")), 0, 9, 0);
    }

    void atMost65535() {
        Run x = withLong(MOST);
        x.base();
        x.turn();
        dueLongest(x, 0, 65535, 0);
        dueLongest(x, 1, 65535, 1);
        dueLongest(x, 2, 65534, 2);
    }

    void standInBase() {
        Run x = with(Bytes.text("xxabcdefghyabcdefghizabcdefghi"), Bytes.text("abcdefghiz-bcdefghiz!"));
        int[][] lengthsAndPlaces = {{10, 11}, {9, 12}, {8, 13}};
        for (int i = 0; i < 21; i++) {
            int behindDash = i - 11;
            int[] found = i < 3 ? lengthsAndPlaces[i] : behindDash == 0 || behindDash == 1
                    ? lengthsAndPlaces[behindDash + 1] : Bytes.row(0, -1);
            dueLongest(x, i, found[0], found[1]);
        }
        dueLongest(with(Bytes.text("abcdefg"), EIGHT), 0, 0, -1);
        dueLongest(with(Bytes.row(), EIGHT), 0, 0, -1);
        for (int bit = 0; bit < 8; bit++) {
            Run changed = with(EIGHT, EIGHT);
            changed.change(4, 1 << bit);
            dueLongest(changed, 0, 0, -1);
        }
        // What stands in INPUT alone does not count, nor what goes on from the end of BASE at its beginning.
        dueLongest(with(EIGHT, Bytes.text("12345678-12345678")), 9, 0, -1);
        dueLongest(with(EIGHT, Bytes.text("efghabcd")), 0, 0, -1);
    }

    void leastPlace() {
        Run x = with(Bytes.text("-01234567-01234567+01234567"), Bytes.text("01234567"));
        dueLongest(x, 0, 8, 1);
        x.put(Bytes.text("01234567+"));
        dueLongest(x, 0, 9, 10);
        dueLongest(with(Bytes.repeat(100, 'a'), Bytes.repeat(50, 'a')), 20, 30, 0);
        dueLongest(with(Bytes.text("abcdefgh1abcdefgh12abcdefgh123abcdefgh12"), Bytes.text("abcdefgh12")), 0, 10, 9);
        dueLongest(with(Bytes.repeat(20, 'a', 'b'), Bytes.repeat(10, 'b', 'a')), 0, 20, 1);
    }

    void lengthOfBaseAndThatOfInput() {
        dueDelta("12345", "abc", 5, 3, 3, 'a', 'b', 'c');
        dueDelta("", "abc", 0, 3, 3, 'a', 'b', 'c');
        dueDelta("12345", "", 5, 0);
    }

    void numbers() {
        int[][] numbers = {{1, 1}, {127, 127}, {128, 128, 1}, {300, 172, 2}, {16383, 255, 127}, {16384, 128, 128, 1},
            {40000, 192, 184, 2}, {65536, 128, 128, 4}};
        for (int[] number : numbers) {
            int[] bytes = Bytes.cut(number, 1, number.length);
            Run x = withLong(number[0]);
            x.make();
            int[] first = IntStream.rangeClosed(1, bytes.length).map(x::letter).toArray();
            checks.due("the length of INPUT " + number[0], Arrays.toString(first), Arrays.toString(bytes));
            x.base();
            dueDelta("nothing on " + number[0], x, Bytes.row(), Bytes.join(bytes, Bytes.row(0)));
        }
    }

    void copyOf8OrMore() {
        dueDelta("-abcdefghi", "abcdefg", 10, 7, 7, 'a', 'b', 'c', 'd', 'e', 'f', 'g');
        dueDelta("-abcdefghi", "abcdefgh", 10, 8, 145, 1, 8);
        dueDelta("-abcdefghi", "abcdefghi", 10, 9, 145, 1, 9);
        dueDelta("-abcdefghi", "?bcdefghi", 10, 9, 1, '?', 145, 2, 8);
        dueDelta("abcdefgh+abcdefgh-", "abcdefgh-", 18, 9, 145, 9, 9);
    }

    /** A NEW letter first would leave a longer COPY; and what a COPY has taken, no other one begins with. */
    void nextPlaceIsBehindCopy() {
        dueDelta("abcdefgh-bcdefghijklmnop", "abcdefghijklmnop", 24, 16, 144, 8, 145, 16, 8);
        dueDelta("abcdefgh", "abcdefghabcdefghabcdefg", 8, 23, 144, 8, 144, 8, 7, 'a', 'b', 'c', 'd', 'e', 'f', 'g');
        dueDelta("aaaaaaaaaa", "aaaaaaaaaaaaaaaaaaaaaaaaa", 10, 25, 144, 10, 144, 10, 5, 'a', 'a', 'a', 'a', 'a');
    }

    void elseNew() {
        dueDelta("abcdefgh", "?abcdefgh!!abcdefgh.", 8, 20, 1, '?', 144, 8, 2, '!', '!', 144, 8, 1, '.');
        dueDelta("abcdefgh", "bcdefghabcdefgh", 8, 15, 7, 'b', 'c', 'd', 'e', 'f', 'g', 'h', 144, 8);
        dueDelta("abcdefgh", "x", 8, 1, 1, 'x');
    }

    /** BASE is letters of which no eight in a row come again; so many of them from this place on are INPUT. */
    private void dueCopy(int place, int length, int... copy) {
        int[] base = Bytes.differing(1100);
        int[] input = Bytes.cut(base, place, place + length);
        dueDelta(length + " from " + place + " on", with(base, input), input,
                Bytes.join(Bytes.number(1100), Bytes.number(length), copy));
    }

    void bytesOfPlace() {
        dueCopy(0, 10, 144, 10);
        dueCopy(5, 10, 145, 5, 10);
        dueCopy(255, 10, 145, 255, 10);
        dueCopy(256, 10, 146, 1, 10);
        dueCopy(300, 10, 147, 44, 1, 10);
        dueCopy(512, 10, 146, 2, 10);
        Run x = new Run();
        x.putLong(Bytes.row('x'), MOST);
        for (int k = 0; k < 8; k++) {
            x.change(65280 + k, 'x' ^ EIGHT[k]);
        }
        x.base();
        x.put(EIGHT);
        dueDelta("eight from 65280 on", x, EIGHT, 128, 128, 4, 8, 146, 255, 8);
    }

    void bytesOfLength() {
        dueCopy(0, 8, 144, 8);
        dueCopy(0, 255, 144, 255);
        dueCopy(0, 256, 160, 1);
        dueCopy(0, 300, 176, 44, 1);
        dueCopy(0, 512, 160, 2);
        dueCopy(0, 1100, 176, 76, 4);
    }

    void inThisOrder() {
        dueCopy(258, 772, 179, 2, 1, 4, 3);
        dueCopy(512, 513, 178, 2, 1, 2);
        dueCopy(7, 768, 161, 7, 3);
        dueCopy(256, 256, 162, 1, 1);
    }

    void rowsOf127() {
        int[] lengths = {126, 127, 128, 200, 254, 255};
        for (int length : lengths) {
            int[] bytes = Bytes.differing(length);
            int[] want = Bytes.join(Bytes.row(0), Bytes.number(length));
            for (int from = 0; from < length; from += 127) {
                int to = Math.min(length, from + 127);
                want = Bytes.join(want, Bytes.row(to - from), Bytes.cut(bytes, from, to));
            }
            dueDelta(length + " NEW", with(Bytes.row(), bytes), bytes, want);
        }
        int[] parted = Bytes.join(Bytes.repeat(130, '?'), EIGHT, Bytes.repeat(2, '!'));
        dueDelta("130 NEW, a COPY, 2 NEW", with(EIGHT, parted), parted, Bytes.join(Bytes.row(8, 140, 1, 127),
                Bytes.repeat(127, '?'), Bytes.row(3, '?', '?', '?', 144, 8, 2, '!', '!')));
    }

    void howManyThenThey() {
        dueDelta("", "z", 0, 1, 1, 'z');
        dueDelta("", "zyx", 0, 3, 3, 'z', 'y', 'x');
        dueDelta("twoNEWrows", "zytwoNEWrowsx", 10, 13, 2, 'z', 'y', 144, 10, 1, 'x');
    }
}
