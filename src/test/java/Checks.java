/** What the tests share: the tally of wrong answers, and calls told in short words. */
final class Checks {
    private int wrong = 0;
    private int made = 0;

    interface Call {
        long answer();
    }

    void due(String what, long got, long want) {
        due(what, Long.toString(got), Long.toString(want));
    }

    void due(String what, String got, String want) {
        made++;
        if (!got.equals(want)) {
            wrong++;
            System.out.println(what + " answered " + got + ", due is " + want);
        }
    }

    void dueThrow(String what, Class<? extends RuntimeException> want, Call call) {
        due(what, outcome(call), "throws." + want.getSimpleName());
    }

    /** The answer, or the very class of what was thrown: a subclass of the due exception is another answer. */
    static String outcome(Call call) {
        try {
            return Long.toString(call.answer());
        } catch (RuntimeException e) {
            return "throws." + e.getClass().getSimpleName();
        }
    }

    void finish() {
        System.out.println(wrong == 0 ? "all " + made + " answers are as due" : wrong + " answers are not as due");
        if (wrong != 0) {
            System.exit(1);
        }
    }

    /** Sets INPUT to these BYTES. */
    static void put(DeltaPress x, int... bytes) {
        x.end(x.count(0));
        int whole = bytes.length / 20 * 20;
        for (int from = 0; from < whole; from += 20) {
            feedFrom(x, bytes, from);
        }
        int rest = bytes.length - whole;
        if (rest > 0 && whole > 0) {
            // The last twenty overlap those before: there may be no room for twenty more.
            x.end(20 - rest);
            feedFrom(x, bytes, bytes.length - 20);
        } else if (rest > 0) {
            feedFrom(x, bytes, 0);
            x.end(20 - rest);
        }
    }

    private static void feedFrom(DeltaPress x, int[] bytes, int from) {
        int[] n = numbers(bytes, from);
        x.feed(n[0], n[1], n[2], n[3], n[4]);
    }

    /** Twenty BYTES as feed takes them, with 0 behind the last one. */
    static int[] numbers(int[] bytes, int from) {
        int[] numbers = new int[5];
        for (int k = 0; k < 20 && from + k < bytes.length; k++) {
            numbers[k / 4] |= bytes[from + k] << 24 - 8 * (k % 4);
        }
        return numbers;
    }

    static void putBase(DeltaPress x, int... bytes) {
        put(x, bytes);
        x.base();
    }

    static int[] text(String letters) {
        return letters.chars().toArray();
    }

    static int[] join(int[]... parts) {
        int length = 0;
        for (int[] part : parts) {
            length += part.length;
        }
        int[] all = new int[length];
        int at = 0;
        for (int[] part : parts) {
            System.arraycopy(part, 0, all, at, part.length);
            at += part.length;
        }
        return all;
    }

    static int[] repeat(int many, int... part) {
        int[] all = new int[many * part.length];
        for (int i = 0; i < all.length; i++) {
            all[i] = part[i % part.length];
        }
        return all;
    }

    /** The number as a DELTA writes it. */
    static int[] number(int number) {
        if (number < 128) {
            return new int[] {number};
        }
        return join(new int[] {number & 127 | 128}, number(number >>> 7));
    }

    static int[] output(DeltaPress x) {
        int[] bytes = new int[x.count(2)];
        for (int i = 0; i < bytes.length; i++) {
            bytes[i] = x.letter(i);
        }
        return bytes;
    }

    void dueOutput(String what, DeltaPress x, int... want) {
        due(what, java.util.Arrays.toString(output(x)), java.util.Arrays.toString(want));
    }

    /** INPUT and OUTPUT become the period again and again, by a reading: far fewer calls than by feeding. */
    static void putLong(DeltaPress x, int[] period, int length) {
        putBase(x, period);
        int[] delta = join(number(period.length), number(length));
        int whole = length / period.length;
        int rest = length % period.length;
        int[] copy = {128 | 16 | 32, period.length & 255, period.length >>> 8};
        int[] last = rest == 0 ? new int[0] : new int[] {128 | 16 | 32, rest & 255, rest >>> 8};
        put(x, join(delta, repeat(whole, copy), last));
        x.use();
        x.turn();
    }
}
