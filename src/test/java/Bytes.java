import java.util.Arrays;

/** Rows of BYTES as the tests write them. */
final class Bytes {
    private Bytes() {
    }

    static int[] row(int... bytes) {
        return bytes;
    }

    static int[] text(String letters) {
        return letters.chars().toArray();
    }

    static int[] join(int[]... parts) {
        return Arrays.stream(parts).flatMapToInt(Arrays::stream).toArray();
    }

    static int[] repeat(int many, int... part) {
        int[] all = new int[many * part.length];
        for (int i = 0; i < all.length; i++) {
            all[i] = part[i % part.length];
        }
        return all;
    }

    static int[] cut(int[] bytes, int from, int to) {
        return Arrays.copyOfRange(bytes, from, to);
    }

    /** As many BYTES that no eight in a row of them come again soon. */
    static int[] differing(int many) {
        int[] bytes = new int[many];
        for (int i = 0; i < many; i++) {
            bytes[i] = i * i / 7 + i / 256 * 3 & 255;
        }
        return bytes;
    }

    /** The number as a DELTA writes it. */
    static int[] number(int number) {
        if (number < 128) {
            return row(number);
        }
        return join(row(number & 127 | 128), number(number >>> 7));
    }

    /** Twenty BYTES as feed takes them, with 0 behind the last one. */
    static int[] numbers(int[] bytes, int from) {
        int[] numbers = new int[5];
        for (int k = 0; k < 20 && from + k < bytes.length; k++) {
            numbers[k / 4] |= bytes[from + k] << 24 - 8 * (k % 4);
        }
        return numbers;
    }
}
