import java.util.Arrays;
import java.util.Random;

/** Texts as long as they may be that repeat themselves in every way, and the longest DELTA. */
public final class LimitsTest {
    private static final Checks CHECKS = new Checks();
    private static final int MOST = 65536;

    public static void main(String[] args) {
        longTexts();
        longestDelta();
        CHECKS.finish();
    }

    private static void longTexts() {
        int[] same = Checks.repeat(MOST, 'a');
        int[] sameButLast = same.clone();
        sameButLast[MOST - 1] = 'b';
        int[] sameButMiddle = same.clone();
        sameButMiddle[MOST / 2] = 'b';
        int[] pairs = Checks.repeat(MOST / 2, 'a', 'b');
        int[] fibonacci = fibonacci();
        int[] random = random(256, 1);
        int[] bits = random(2, 2);
        int[] blocks = blocks();
        compare("same on same", same, same);
        compare("same on same but last", sameButLast, same);
        compare("same but middle on same", same, sameButMiddle);
        compare("same on same but middle", sameButMiddle, same);
        compare("pairs on pairs but first", pairs, Arrays.copyOfRange(pairs, 1, MOST));
        compare("Fibonacci on itself", fibonacci, fibonacci);
        compare("Fibonacci on its end", Arrays.copyOfRange(fibonacci, 40000, MOST), fibonacci);
        compare("bits on bits", bits, random(2, 3));
        compare("letters on letters", random, random(256, 4));
        compare("blocks on letters", random, blocks);
        compare("letters on blocks", blocks, random);
        compare("pairs on Fibonacci", fibonacci, pairs);
    }

    private static int[] fibonacci() {
        int[] word = new int[MOST];
        int before = 1;
        int length = 2;
        word[0] = 'a';
        word[1] = 'b';
        while (length < MOST) {
            int more = Math.min(before, MOST - length);
            System.arraycopy(word, 0, word, length, more);
            before = length;
            length += more;
        }
        return word;
    }

    private static int[] random(int letters, int seed) {
        Random random = new Random(seed);
        int[] text = new int[MOST];
        for (int i = 0; i < MOST; i++) {
            text[i] = random.nextInt(letters);
        }
        return text;
    }

    private static int[] blocks() {
        int[] text = random(256, 1);
        Random random = new Random(5);
        for (int i = 0; i + 300 < MOST; i += 20 + random.nextInt(280)) {
            System.arraycopy(text, random.nextInt(MOST - 300), text, i, random.nextInt(300));
        }
        return text;
    }

    private static void compare(String what, int[] base, int[] text) {
        DeltaPress x = new DeltaPress();
        Checks.putBase(x, base);
        Checks.put(x, text);
        int[] places = {0, 1, 7, text.length / 3, text.length / 2, text.length - 9, text.length - 8, text.length - 1};
        for (int place : places) {
            int[] want = longest(base, text, place);
            CHECKS.due(what + ": length at " + place, x.longest(place, 0), want[0] < 8 ? 0 : want[0]);
            CHECKS.due(what + ": place at " + place, x.longest(place, 1), want[0] < 8 ? -1 : want[1]);
        }
        int length = x.make();
        CHECKS.due(what + ": OUTPUT", x.count(2), length);
        if (length > MOST) {
            CHECKS.dueThrow(what + ": turn", IllegalStateException.class, x::turn);
            return;
        }
        x.turn();
        CHECKS.due(what + ": use", Checks.outcome(x::use), Integer.toString(text.length));
        CHECKS.due(what + ": is the text again", Arrays.equals(Checks.output(x), text) ? 1 : 0, 1);
        CHECKS.due(what + ": BASE stays", x.count(1), base.length);
    }

    /** Nothing of INPUT stands in BASE: two lengths of 3 BYTES, 517 rows of NEW ones. */
    private static void longestDelta() {
        DeltaPress x = new DeltaPress();
        Checks.putLong(x, Checks.repeat(100, 'a'), MOST);
        x.base();
        int[] text = Checks.repeat(MOST, 'b');
        Checks.put(x, text);
        CHECKS.due("make, all NEW", Checks.outcome(x::make), "66059");
        CHECKS.due("NEW BYTES", x.count(4), MOST);
        CHECKS.due("the last row's head", x.letter(66059 - 5), 4);
        CHECKS.due("the last BYTE", x.letter(66059 - 1), 'b');
        CHECKS.dueThrow("turn, all NEW", IllegalStateException.class, x::turn);
        CHECKS.due("INPUT stays", x.count(0), MOST);
    }

    /** By Knuth, Morris and Pratt: how much of the text is a border at each place of BASE. */
    private static int[] longest(int[] base, int[] text, int from) {
        int[] wanted = Arrays.copyOfRange(text, from, Math.min(text.length, from + 65535));
        int[] border = new int[wanted.length + 1];
        border[0] = -1;
        for (int i = 0, k = -1; i < wanted.length; border[++i] = ++k) {
            while (k >= 0 && wanted[k] != wanted[i]) {
                k = border[k];
            }
        }
        int[] best = {0, -1};
        int same = 0;
        for (int i = 0; i < base.length; i++) {
            while (same >= 0 && (same == wanted.length || wanted[same] != base[i])) {
                same = border[same];
            }
            same++;
            if (same > best[0]) {
                best = new int[] {same, i + 1 - same};
            }
        }
        return best;
    }
}
