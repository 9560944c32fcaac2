import java.util.Arrays;

/** READING of "Terms": each sentence that names a boundary, on both sides of it. */
public final class ReadingBoundaryTest {
    private static final Checks CHECKS = new Checks();
    private static final int MOST = 65536;
    private static final int[] TEN = Bytes.text("abcdefghij");
    /** The numbers of BASE and of a text of 65536 BYTES. */
    private static final int[] ALL_ON_ALL = {128, 128, 4, 128, 128, 4};
    private static final int[] TWO_NEW = {2, 'x', 'y'};

    public static void main(String[] args) {
        firstNumberOfAtMostFour();
        secondNumberOfAtMostFour();
        numbersCutShort();
        lengthOfBase();
        lengthOfNoBase();
        lengthOfLongestBase();
        secondAtMost65536();
        threeBytesOfLength();
        lengthOf0();
        lengthOf0OnShorterBase();
        withinBase();
        withinNoBase();
        withinLongestBase();
        placesThatWrapAround();
        copiesCutShort();
        rowsOf1To127();
        rowsCutShort();
        noByte0();
        exactlyAsManyByNew();
        exactlyAsManyByCopies();
        exactlyAsManyOf65536();
        CHECKS.finish();
    }

    /** BASE is ten letters, OUTPUT two, and of the latest make there was one COPY and one NEW BYTE. */
    private static Run onTen() {
        Run x = new Run();
        x.putBase(TEN);
        x.put(Bytes.join(TEN, Bytes.row('!')));
        x.make();
        x.put(10, 2, 2, 'o', 'k');
        x.use();
        return x;
    }

    private static Run onNothing() {
        Run x = new Run();
        x.put(0, 2, 2, 'o', 'k');
        x.use();
        return x;
    }

    private static Run onLong(int length) {
        Run x = new Run();
        x.putLong(TEN, length);
        x.base();
        x.put(new Delta(length).fresh('o', 'k').bytes());
        x.use();
        return x;
    }

    private static void sound(Run x, int[] delta, int... want) {
        x.put(delta);
        String what = "use() of " + Arrays.toString(delta);
        CHECKS.due(what, x::use, want.length);
        CHECKS.dueOutput(what, x, want);
        CHECKS.due("count(5) behind " + what, x.count(5), 0);
    }

    private static void damaged(Run x, int... delta) {
        x.put(delta);
        CHECKS.dueDamaged(Arrays.toString(delta), x);
    }

    /** A new run each, so that what one reading leaves is no help to the next. */
    private static void damagedOnTen(int... delta) {
        damaged(onTen(), delta);
    }

    private static void soundOnTen(int[] delta, int... want) {
        sound(onTen(), delta, want);
    }

    private static int[] longText(int length) {
        return Bytes.cut(Bytes.repeat(length / 10 + 1, TEN), 0, length);
    }

    private static void firstNumberOfAtMostFour() {
        CHECKS.says("of at most 4 BYTES each (BYTES of 128 that add nothing are fine), the first");
        int[][] four = {{10}, {138, 0}, {138, 128, 0}, {138, 128, 128, 0}};
        for (int[] number : four) {
            soundOnTen(Bytes.join(number, Bytes.row(2), TWO_NEW), 'x', 'y');
        }
        int[][] more = {{138, 128, 128, 128, 0}, {138, 128, 128, 128}, {138, 128, 128, 128, 128, 0}};
        for (int[] number : more) {
            damagedOnTen(Bytes.join(number, Bytes.row(2), TWO_NEW));
        }
        int[][] fourOfNothing = {{0}, {128, 0}, {128, 128, 0}, {128, 128, 128, 0}};
        for (int[] number : fourOfNothing) {
            sound(onNothing(), Bytes.join(number, Bytes.row(2), TWO_NEW), 'x', 'y');
        }
        damaged(onNothing(), 128, 128, 128, 128, 0, 2, 2, 'x', 'y');
        sound(onLong(MOST), Bytes.row(128, 128, 132, 0, 2, 2, 'x', 'y'), 'x', 'y');
        damaged(onLong(MOST), 128, 128, 132, 128, 0, 2, 2, 'x', 'y');
    }

    private static void secondNumberOfAtMostFour() {
        CHECKS.says("of at most 4 BYTES each (BYTES of 128 that add nothing are fine), the second");
        int[][] four = {{2}, {130, 0}, {130, 128, 0}, {130, 128, 128, 0}};
        for (int[] number : four) {
            soundOnTen(Bytes.join(Bytes.row(10), number, TWO_NEW), 'x', 'y');
        }
        int[][] more = {{130, 128, 128, 128, 0}, {130, 128, 128, 128}, {130, 128, 128, 128, 128, 0}};
        for (int[] number : more) {
            damagedOnTen(Bytes.join(Bytes.row(10), number, TWO_NEW));
        }
        soundOnTen(Bytes.row(138, 128, 128, 0, 128, 128, 128, 0));
        damagedOnTen(138, 128, 128, 0, 128, 128, 128, 128, 0);
        sound(onLong(MOST), Bytes.row(128, 128, 132, 0, 128, 128, 132, 0, 128), longText(MOST));
        damaged(onLong(MOST), 128, 128, 132, 0, 128, 128, 132, 128, 0, 128);
    }

    private static void numbersCutShort() {
        CHECKS.says("it's DAMAGED unless it is: two numbers of that form");
        damagedOnTen();
        damagedOnTen(10);
        damagedOnTen(138);
        damagedOnTen(138, 128, 128);
        damagedOnTen(10, 130);
        damagedOnTen(10, 128, 128, 128);
        soundOnTen(Bytes.row(10, 0));
        damaged(onNothing());
        damaged(onNothing(), 0);
        sound(onNothing(), Bytes.row(0, 0));
    }

    private static void lengthOfBase() {
        CHECKS.says("the first one the length of BASE");
        soundOnTen(Bytes.row(10, 2, 2, 'x', 'y'), 'x', 'y');
        // One less, one more, none, and ten with a bit more in each of its BYTES.
        int[][] others = {{9}, {11}, {0}, {1}, {127}, {74}, {138, 1}, {138, 64}, {138, 128, 1}, {138, 128, 64},
            {138, 128, 128, 1}, {138, 128, 128, 64}, {138, 128, 128, 127}, {255, 255, 255, 127}};
        for (int[] other : others) {
            damagedOnTen(Bytes.join(other, Bytes.row(2), TWO_NEW));
        }
    }

    private static void lengthOfNoBase() {
        CHECKS.says("the first one the length of BASE, which is nothing");
        sound(onNothing(), Bytes.row(0, 2, 2, 'x', 'y'), 'x', 'y');
        int[][] others = {{1}, {128, 1}, {128, 128, 1}, {128, 128, 128, 1}, {255, 255, 255, 127}};
        for (int[] other : others) {
            damaged(onNothing(), Bytes.join(other, Bytes.row(2), TWO_NEW));
        }
    }

    private static void lengthOfLongestBase() {
        CHECKS.says("the first one the length of BASE, which is 65536");
        Run x = onLong(MOST);
        sound(x, Bytes.row(128, 128, 4, 2, 2, 'x', 'y'), 'x', 'y');
        int[][] others = {{255, 255, 3}, {129, 128, 4}, {0}, {128, 128, 132, 1}};
        for (int[] other : others) {
            damaged(x, Bytes.join(other, Bytes.row(2), TWO_NEW));
        }
    }

    private static void secondAtMost65536() {
        CHECKS.says("the second at most 65536");
        sound(onLong(MOST), Bytes.row(128, 128, 4, 255, 255, 3, 176, 255, 255), longText(MOST - 1));
        sound(onLong(MOST), Bytes.join(ALL_ON_ALL, Bytes.row(128)), longText(MOST));
        Run x = onLong(MOST);
        // One more than it may say, which are made indeed; and twice as many.
        damaged(x, 128, 128, 4, 129, 128, 4, 128, 1, 'x');
        damaged(x, 128, 128, 4, 129, 128, 4, 1, 'x', 128);
        damaged(x, 128, 128, 4, 128, 128, 8, 128, 128);
        damaged(x, 128, 128, 4, 128, 128, 132, 1, 128);
        damaged(x, 128, 128, 4, 255, 255, 255, 127, 128);
        damagedOnTen(10, 255, 255, 255, 127, 144, 10);
        damagedOnTen(10, 129, 128, 4, 144, 1);
        soundOnTen(new Delta(10).copies(10, 500).bytes(), longText(500));
        soundOnTen(Bytes.row(10, 0));
    }

    private static void threeBytesOfLength() {
        CHECKS.says("three BYTES of length");
        Run x = onLong(MOST);
        sound(x, Bytes.row(128, 128, 4, 255, 255, 3, 176, 255, 255), longText(MOST - 1));
        sound(x, Bytes.join(ALL_ON_ALL, Bytes.row(192, 1)), longText(MOST));
        sound(x, Bytes.row(128, 128, 4, 129, 2, 176, 1, 1), longText(257));
        sound(x, Bytes.row(128, 128, 4, 128, 2, 160, 1), longText(256));
        sound(x, Bytes.row(128, 128, 4, 255, 1, 144, 255), longText(255));
        Run y = onLong(MOST);
        damaged(y, Bytes.join(ALL_ON_ALL, Bytes.row(192, 2)));
        damaged(y, Bytes.join(ALL_ON_ALL, Bytes.row(208, 1, 1)));
        damaged(y, Bytes.join(ALL_ON_ALL, Bytes.row(240, 255, 255, 255)));
        damaged(y, 128, 128, 4, 1, 208, 1, 1);
        damagedOnTen(10, 1, 208, 1, 1);
        damagedOnTen(10, 1, 176, 1, 1);
        damagedOnTen(10, 10, 240, 10, 255, 255);
        soundOnTen(Bytes.row(10, 1, 144, 1), 'a');
    }

    private static void lengthOf0() {
        CHECKS.says("a length of 0 is 65536");
        Run x = onLong(MOST);
        sound(x, Bytes.join(ALL_ON_ALL, Bytes.row(128)), longText(MOST));
        Run y = onLong(MOST);
        damaged(y, 128, 128, 4, 0, 128);
        damaged(y, 128, 128, 4, 255, 255, 3, 128);
        damaged(y, Bytes.join(ALL_ON_ALL, Bytes.row(128, 128)));
        damaged(y, Bytes.join(ALL_ON_ALL, Bytes.row(129, 1)));
    }

    private static void lengthOf0OnShorterBase() {
        CHECKS.says("a length of 0 is 65536");
        Run x = onLong(MOST - 1);
        sound(x, Bytes.row(255, 255, 3, 255, 255, 3, 176, 255, 255), longText(MOST - 1));
        Run y = onLong(MOST - 1);
        damaged(y, 255, 255, 3, 128, 128, 4, 128);
        damaged(y, 255, 255, 3, 255, 255, 3, 128);
        damaged(y, 255, 255, 3, 0, 128);
        damagedOnTen(10, 0, 128);
        damagedOnTen(10, 10, 128);
        damagedOnTen(10, 9, 129, 1);
        damaged(onNothing(), 0, 0, 128);
        damaged(onNothing(), 0, 128, 128, 4, 128);
    }

    private static void copyOnTen(boolean isSound, int place, int length) {
        int[] delta = new Delta(10).copy(place, length).bytes();
        if (isSound) {
            soundOnTen(delta, Bytes.cut(TEN, place, place + length));
        } else {
            damagedOnTen(delta);
        }
    }

    private static void withinBase() {
        CHECKS.says("wholly within BASE");
        for (int place = 0; place <= 9; place++) {
            copyOnTen(true, place, 1);
            copyOnTen(true, place, 10 - place);
            copyOnTen(false, place, 11 - place);
            copyOnTen(false, place, 20);
        }
        for (int place = 10; place <= 12; place++) {
            copyOnTen(false, place, 1);
            copyOnTen(false, place, 2);
        }
    }

    private static void withinNoBase() {
        CHECKS.says("wholly within BASE, which is nothing");
        Run x = onNothing();
        damaged(x, 0, 1, 144, 1);
        damaged(x, 0, 1, 145, 1, 1);
        damaged(x, 0, 0, 144, 1);
        damaged(x, 0, 128, 128, 4, 128);
        damaged(x, 0, 128, 128, 4, 192, 1);
        damaged(x, 0, 1, 159, 255, 255, 255, 255, 1);
    }

    private static void withinLongestBase() {
        CHECKS.says("wholly within BASE, which is 65536");
        Run x = onLong(MOST);
        int[] all = longText(MOST);
        sound(x, new Delta(MOST).copy(65535, 1).bytes(), all[65535]);
        sound(x, new Delta(MOST).copy(65534, 2).bytes(), all[65534], all[65535]);
        sound(x, new Delta(MOST).copy(1, 65535).bytes(), Bytes.cut(all, 1, MOST));
        sound(x, new Delta(MOST).copy(0, 65536).bytes(), all);
        Run y = onLong(MOST);
        int[][] placesAndLengths = {{65535, 2}, {65536, 1}, {65537, 1}, {1, 65536}, {2, 65535}, {131071, 1},
            {65536, 65536}};
        for (int[] copy : placesAndLengths) {
            damaged(y, new Delta(MOST).copy(copy[0], copy[1]).bytes());
        }
    }

    /** Places that would fall into BASE if the highest BYTES were lost, or if place and length went round. */
    private static void placesThatWrapAround() {
        CHECKS.says("wholly within BASE");
        int[] places = {256, 257, 65536, 65537, 1 << 24, (1 << 24) + 1, Integer.MAX_VALUE, Integer.MAX_VALUE - 1,
            Integer.MIN_VALUE, Integer.MIN_VALUE + 1, -1, -2, -10};
        for (int place : places) {
            damagedOnTen(new Delta(10).copy(place, 1).bytes());
            damagedOnTen(new Delta(10).copy(place, 2).bytes());
            damagedOnTen(new Delta(10).copy(place, 10).bytes());
            damagedOnTen(Bytes.join(Bytes.row(10, 10), Delta.copyOf(place, 0)));
            damagedOnTen(Bytes.join(Bytes.row(10, 10), Delta.copyOf(place, 0xffffff)));
        }
        Run x = onLong(MOST);
        damaged(x, Bytes.join(ALL_ON_ALL, Delta.copyOf(-65536, 65536)));
        damaged(x, Bytes.join(ALL_ON_ALL, Delta.copyOf(-1, 65536)));
        damaged(x, Bytes.join(ALL_ON_ALL, Delta.copyOf(Integer.MIN_VALUE, 65536)));
    }

    private static void copiesCutShort() {
        CHECKS.says("it's DAMAGED unless it is: COPIES");
        Run x = onLong(MOST);
        int[] whole = new Delta(MOST).copy(257, 257).bytes();
        sound(x, whole, Bytes.cut(longText(MOST), 257, 514));
        Run y = onLong(MOST);
        for (int missing = 1; missing <= 4; missing++) {
            damaged(y, Bytes.cut(whole, 0, whole.length - missing));
        }
        damagedOnTen(10, 1, 144);
        damagedOnTen(10, 1, 145);
        damagedOnTen(10, 1, 145, 1);
        // Without the BYTE that is missing, it would be a COPY of all.
        int[] heads = {129, 130, 132, 136, 144, 160, 192, 255};
        for (int head : heads) {
            damaged(y, Bytes.join(ALL_ON_ALL, Bytes.row(head)));
        }
    }

    private static void rowsOf1To127() {
        CHECKS.says("rows of 1 to 127 NEW BYTES");
        int[] lengths = {1, 2, 126, 127};
        for (int length : lengths) {
            int[] bytes = Bytes.differing(length);
            soundOnTen(new Delta(10).fresh(bytes).bytes(), bytes);
            soundOnTen(new Delta(10).fresh(bytes).fresh(1).fresh(bytes).bytes(),
                    Bytes.join(bytes, Bytes.row(1), bytes));
        }
        // A row of 128 would begin as a COPY does.
        damagedOnTen(Bytes.join(Bytes.row(10, 128, 1, 128), Bytes.repeat(128, 'x')));
        soundOnTen(Bytes.row(10, 4, 1, 0, 1, 255, 2, 0, 128), 0, 255, 0, 128);
    }

    private static void rowsCutShort() {
        CHECKS.says("rows of 1 to 127 NEW BYTES");
        int[] lengths = {1, 2, 126, 127};
        for (int length : lengths) {
            int[] whole = new Delta(10).fresh(Bytes.differing(length)).bytes();
            damagedOnTen(Bytes.cut(whole, 0, whole.length - 1));
            whole[1]--;
            damagedOnTen(Bytes.cut(whole, 0, whole.length - 1));
        }
        damagedOnTen(10, 0, 1);
        damagedOnTen(10, 0, 127);
    }

    private static void noByte0() {
        CHECKS.says("no BYTE 0 instead");
        soundOnTen(Bytes.row(10, 0));
        damagedOnTen(10, 0, 0);
        damagedOnTen(10, 2, 0, 2, 'x', 'y');
        damagedOnTen(10, 2, 2, 'x', 'y', 0);
        damagedOnTen(10, 2, 1, 'x', 0, 1, 'y');
        damagedOnTen(10, 2, 0, 144, 2);
        damagedOnTen(10, 2, 144, 2, 0);
        damagedOnTen(10, 1, 0);
        damagedOnTen(10, 1, 0, 'x');
        soundOnTen(Bytes.row(10, 1, 1, 0), 0);
        damaged(onNothing(), 0, 0, 0);
        damaged(onLong(MOST), Bytes.join(ALL_ON_ALL, Bytes.row(128, 0)));
        damaged(onLong(MOST), Bytes.join(ALL_ON_ALL, Bytes.row(0, 128)));
    }

    private static void exactlyAsManyByNew() {
        CHECKS.says("exactly as many BYTES as the second number says");
        soundOnTen(Bytes.row(10, 2, 2, 'x', 'y'), 'x', 'y');
        soundOnTen(Bytes.row(10, 2, 1, 'x', 1, 'y'), 'x', 'y');
        damagedOnTen(10, 1, 2, 'x', 'y');
        damagedOnTen(10, 3, 2, 'x', 'y');
        damagedOnTen(10, 0, 2, 'x', 'y');
        damagedOnTen(10, 1, 1, 'x', 1, 'y');
        damagedOnTen(10, 3, 1, 'x', 1, 'y');
        damagedOnTen(10, 2);
        damagedOnTen(10, 1);
        damagedOnTen(10, 0, 1, 'x');
        damagedOnTen(10, 130, 1, 2, 'x', 'y');
        damagedOnTen(10, 128, 128, 4, 2, 'x', 'y');
    }

    private static void exactlyAsManyByCopies() {
        CHECKS.says("exactly as many BYTES as the second number says");
        soundOnTen(Bytes.row(10, 5, 144, 5), 'a', 'b', 'c', 'd', 'e');
        soundOnTen(Bytes.row(10, 5, 144, 3, 145, 8, 2), 'a', 'b', 'c', 'i', 'j');
        damagedOnTen(10, 4, 144, 5);
        damagedOnTen(10, 6, 144, 5);
        damagedOnTen(10, 0, 144, 1);
        damagedOnTen(10, 4, 144, 3, 145, 8, 2);
        damagedOnTen(10, 6, 144, 3, 145, 8, 2);
        damagedOnTen(10, 3, 144, 3, 145, 8, 2);
        damagedOnTen(10, 5, 144, 5, 1, 'x');
        damagedOnTen(10, 5, 144, 5, 144, 1);
        soundOnTen(Bytes.row(10, 6, 144, 5, 1, 'x'), 'a', 'b', 'c', 'd', 'e', 'x');
    }

    private static void exactlyAsManyOf65536() {
        CHECKS.says("exactly as many BYTES as the second number says");
        Run x = onLong(MOST);
        sound(x, new Delta(MOST).copy(0, MOST - 1).fresh('x').bytes(),
                Bytes.join(longText(MOST - 1), Bytes.row('x')));
        Run y = onLong(MOST);
        damaged(y, Bytes.join(ALL_ON_ALL, Bytes.row(176, 255, 255)));
        damaged(y, Bytes.join(ALL_ON_ALL, Bytes.row(176, 255, 255, 2, 'x', 'y')));
        damaged(y, Bytes.join(ALL_ON_ALL, Bytes.row(176, 255, 255, 144, 2)));
        damaged(y, Bytes.join(ALL_ON_ALL, Bytes.row(128, 1, 'x')));
        damaged(y, Bytes.join(ALL_ON_ALL, Bytes.row(128, 144, 1)));
        damaged(y, Bytes.join(ALL_ON_ALL, Bytes.row(1, 'x', 128)));
        // Far more than any room holds.
        damaged(y, Bytes.join(ALL_ON_ALL, Bytes.repeat(100, 128)));
        damaged(y, 128, 128, 4, 0, 128);
        damaged(y, ALL_ON_ALL);
    }
}
