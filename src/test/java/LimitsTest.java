import java.util.Arrays;
import java.util.Random;

/**
 * Texts as long as they may be that repeat themselves in every way. An object has 512 calls, so they are not fed but
 * made: BASE of a period or of pieces of a seed, INPUT of pieces of BASE and a few other letters.
 */
public final class LimitsTest {
    private static final Checks CHECKS = new Checks();
    private static final int MOST = 65536;

    public static void main(String[] args) {
        periods();
        fibonacci();
        pieces();
        nothingOfBase();
        CHECKS.finish();
    }

    private static void periods() {
        int[] same = Bytes.repeat(MOST, 'a');
        int[] pairs = Bytes.repeat(MOST / 2, 'a', 'b');
        compare("same on same", withPeriod('a'), same, new Delta(MOST).copy(0, MOST));
        compare("same but last on same", withPeriod('a'), same, new Delta(MOST).copy(0, MOST - 1).fresh('b'));
        compare("same but middle on same", withPeriod('a'), same,
                new Delta(MOST).copy(0, 32768).fresh('b').copy(0, 32767));
        compare("pairs on pairs", withPeriod('a', 'b'), pairs, new Delta(MOST).copy(1, MOST - 1));
        compare("pairs with a seam on pairs", withPeriod('a', 'b'), pairs,
                new Delta(MOST).copy(1, 40000).copy(1, 25536));
        int[] parted = same.clone();
        parted[MOST / 2] = 'b';
        Run x = new Run();
        x.putLong(Bytes.row('a'), MOST);
        x.change(MOST / 2, 'a' ^ 'b');
        x.base();
        compare("same on same but middle", x, parted, new Delta(MOST).copy(0, 32768).copy(0, 32768));
    }

    private static Run withPeriod(int... period) {
        Run x = new Run();
        x.putLong(period, MOST);
        x.base();
        return x;
    }

    /** BASE is what the DELTA makes of the seed. */
    private static Run withPieces(int[] seed, Delta delta) {
        Run x = new Run();
        x.putBase(seed);
        x.put(delta.bytes());
        x.use();
        x.turn();
        x.base();
        return x;
    }

    private static void fibonacci() {
        int[] seed = word(610);
        Delta delta = new Delta(610);
        for (int piece : word(200)) {
            int left = MOST - delta.makes();
            int length = piece == 'a' ? 610 : 377;
            if (left > 0) {
                delta.copy(0, Math.min(length, left));
            }
        }
        int[] base = delta.made(seed);
        CHECKS.due("it is a Fibonacci word", Arrays.equals(base, word(MOST)) ? 1 : 0, 1);
        compare("Fibonacci on itself", withPieces(seed, delta), base, new Delta(MOST).copy(0, MOST));
        compare("the end of Fibonacci", withPieces(seed, delta), base, new Delta(MOST).copy(25536, 40000));
        compare("pieces of Fibonacci", withPieces(seed, delta), base, somePieces(MOST, 1));
    }

    private static int[] word(int length) {
        int[] word = new int[length];
        int before = 1;
        int made = 2;
        word[0] = 'a';
        word[1] = 'b';
        while (made < length) {
            int more = Math.min(before, length - made);
            System.arraycopy(word, 0, word, made, more);
            before = made;
            made += more;
        }
        return word;
    }

    private static void pieces() {
        for (int seed = 2; seed < 6; seed++) {
            int letters = seed % 2 == 0 ? 2 : 256;
            int[] text = new Random(seed).ints(1500, 0, letters).toArray();
            Delta delta = somePieces(text.length, seed);
            compare("pieces of " + letters + " letters, " + seed, withPieces(text, delta), delta.made(text),
                    somePieces(MOST, seed + 10));
        }
    }

    /** As many as fill a text to its end, with a few letters between them. */
    private static Delta somePieces(int inBase, int seed) {
        Random random = new Random(seed);
        Delta delta = new Delta(inBase);
        while (delta.makes() < MOST) {
            int length = Math.min(1 + random.nextInt(900), MOST - delta.makes());
            delta.copy(random.nextInt(inBase - length), length);
            int left = Math.min(random.nextInt(4), MOST - delta.makes());
            if (left > 0) {
                delta.fresh(random.ints(left, 0, 256).toArray());
            }
        }
        return delta;
    }

    private static void compare(String what, Run x, int[] base, Delta delta) {
        int[] text = delta.made(base);
        x.put(delta.bytes());
        CHECKS.due(what + ": use", x::use, text.length);
        CHECKS.due(what + ": its text", Arrays.equals(x.output(), text) ? 1 : 0, 1);
        x.turn();
        int[] places = {0, 1, 7, text.length / 3, text.length / 2, text.length - 9, text.length - 8, text.length - 1};
        for (int place : places) {
            int[] want = longest(base, text, place);
            CHECKS.due(what + ": length at " + place, x.longest(place, 0), want[0] < 8 ? 0 : want[0]);
            CHECKS.due(what + ": place at " + place, x.longest(place, 1), want[0] < 8 ? -1 : want[1]);
        }
        int[] want = deltaOf(base, text);
        CHECKS.due(what + ": make", x.make(), want.length);
        CHECKS.dueOutput(what + ": make", x, want);
        x.turn();
        CHECKS.due(what + ": use of make", x::use, text.length);
        CHECKS.due(what + ": its text again", Arrays.equals(x.output(), text) ? 1 : 0, 1);
        CHECKS.due(what + ": BASE stays", x.count(1), base.length);
    }

    private static int[] deltaOf(int[] base, int[] text) {
        Delta delta = new Delta(base.length);
        int place = 0;
        int fresh = 0;
        while (place + fresh < text.length) {
            int[] found = longest(base, text, place + fresh);
            if (found[0] < 8) {
                fresh++;
            }
            if (fresh > 0 && (found[0] >= 8 || fresh == 127 || place + fresh == text.length)) {
                delta.fresh(Bytes.cut(text, place, place + fresh));
                place += fresh;
                fresh = 0;
            }
            if (found[0] >= 8) {
                delta.copy(found[1], found[0]);
                place += found[0];
            }
        }
        return delta.bytes();
    }

    private static void nothingOfBase() {
        Run x = new Run();
        x.putNothingOfBase(MOST);
        CHECKS.due("make, all NEW", x::make, 66059);
        CHECKS.due("COPIES", x.count(3), 0);
        CHECKS.due("NEW BYTES", x.count(4), MOST);
        CHECKS.due("the last row's head", x.letter(66059 - 5), 4);
        CHECKS.dueRefused("turn, all NEW", IllegalStateException.class, x, x::turn);
    }

    /** By Knuth, Morris and Pratt: how much of the text is a border at each place of BASE. */
    private static int[] longest(int[] base, int[] text, int from) {
        int[] wanted = Arrays.copyOfRange(text, from, Math.min(text.length, from + 65535));
        int[] border = new int[wanted.length + 1];
        border[0] = -1;
        for (int i = 0, k = -1; i < wanted.length; border[++i] = ++k) {
            while (k >= 0 && wanted[k] != wanted[i]) {
                k = border[k];
            }
        }
        int[] best = {0, -1};
        int same = 0;
        for (int i = 0; i < base.length; i++) {
            while (same >= 0 && (same == wanted.length || wanted[same] != base[i])) {
                same = border[same];
            }
            same++;
            if (same > best[0]) {
                best = new int[] {same, i + 1 - same};
            }
        }
        return best;
    }
}
