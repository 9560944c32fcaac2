import java.util.ArrayList;
import java.util.List;

/** The document in its plainest words, however slow: what DeltaPress answers is compared with it. */
final class PlainModel {
    private List<Integer> input = new ArrayList<>();
    private List<Integer> base = new ArrayList<>();
    private List<Integer> output = new ArrayList<>();
    private int copies = 0;
    private int fresh = 0;
    private int damaged = 0;

    int feed(int... numbers) {
        if (input.size() + 20 > 65536) {
            throw new IllegalStateException();
        }
        for (int number : numbers) {
            for (int shift = 24; shift >= 0; shift -= 8) {
                input.add(number >> shift & 255);
            }
        }
        return input.size();
    }

    int end(int n) {
        if (n < 0 || n > input.size()) {
            throw new IllegalArgumentException();
        }
        input = new ArrayList<>(input.subList(0, input.size() - n));
        return input.size();
    }

    int change(int i, int x) {
        if (i < 0 || i >= input.size() || x < 0 || x > 255) {
            throw new IllegalArgumentException();
        }
        input.set(i, input.get(i) ^ x);
        return 0;
    }

    int base() {
        base = input;
        input = new ArrayList<>();
        return base.size();
    }

    private int same(int i, int place) {
        int length = 0;
        while (length < 65535 && i + length < input.size() && place + length < base.size()
                && input.get(i + length).equals(base.get(place + length))) {
            length++;
        }
        return length;
    }

    private int[] longestAt(int i) {
        int[] best = {0, -1};
        for (int place = 0; place < base.size(); place++) {
            int length = same(i, place);
            if (length > best[0]) {
                best = new int[] {length, place};
            }
        }
        return best;
    }

    private static void addNumber(List<Integer> row, int number) {
        while (number >= 128) {
            row.add(number % 128 + 128);
            number /= 128;
        }
        row.add(number);
    }

    int make() {
        List<Integer> delta = new ArrayList<>();
        addNumber(delta, base.size());
        addNumber(delta, input.size());
        copies = 0;
        fresh = 0;
        List<Integer> row = new ArrayList<>();
        int i = 0;
        while (i < input.size()) {
            int[] found = longestAt(i);
            if (found[0] >= 8) {
                flush(row, delta);
                addCopy(delta, found[1], found[0]);
                i += found[0];
            } else {
                row.add(input.get(i));
                fresh++;
                i++;
            }
            if (row.size() == 127) {
                flush(row, delta);
            }
        }
        flush(row, delta);
        output = delta;
        return output.size();
    }

    private static void flush(List<Integer> row, List<Integer> delta) {
        if (!row.isEmpty()) {
            delta.add(row.size());
            delta.addAll(row);
            row.clear();
        }
    }

    private void addCopy(List<Integer> delta, int place, int length) {
        int[] bytes = {place % 256, place / 256 % 256, place / 65536, 0, length % 256, length / 256};
        int head = 128;
        List<Integer> rest = new ArrayList<>();
        for (int bit = 0; bit < bytes.length; bit++) {
            if (bytes[bit] != 0) {
                head += 1 << bit;
                rest.add(bytes[bit]);
            }
        }
        delta.add(head);
        delta.addAll(rest);
        copies++;
    }

    int use() {
        List<Integer> made = read(new ArrayList<>(input));
        if (made == null) {
            damaged++;
            throw new ArithmeticException();
        }
        output = made;
        return output.size();
    }

    /** Null if DAMAGED; what is read is taken from the front. */
    private List<Integer> read(List<Integer> delta) {
        long ofBase = takeNumber(delta);
        long ofText = takeNumber(delta);
        if (ofBase != base.size() || ofText < 0 || ofText > 65536) {
            return null;
        }
        List<Integer> made = new ArrayList<>();
        while (!delta.isEmpty()) {
            int head = delta.remove(0);
            List<Integer> part = head >= 128 ? takeCopy(head, delta) : takeNew(head, delta);
            if (part == null) {
                return null;
            }
            made.addAll(part);
        }
        return made.size() == ofText ? made : null;
    }

    private static long takeNumber(List<Integer> delta) {
        long number = 0;
        long worth = 1;
        for (int k = 0; k < 4; k++) {
            if (delta.isEmpty()) {
                return -1;
            }
            int letter = delta.remove(0);
            number += letter % 128 * worth;
            if (letter < 128) {
                return number;
            }
            worth *= 128;
        }
        return -1;
    }

    private List<Integer> takeCopy(int head, List<Integer> delta) {
        long[] bytes = new long[7];
        for (int bit = 0; bit < 7; bit++) {
            if ((head & 1 << bit) != 0) {
                if (delta.isEmpty()) {
                    return null;
                }
                bytes[bit] = delta.remove(0);
            }
        }
        long place = bytes[0] + 256 * bytes[1] + 65536 * bytes[2] + 16777216 * bytes[3];
        long length = bytes[4] + 256 * bytes[5] + 65536 * bytes[6];
        if (length == 0) {
            length = 65536;
        }
        return place + length > base.size() ? null : base.subList((int) place, (int) (place + length));
    }

    private static List<Integer> takeNew(int head, List<Integer> delta) {
        if (head == 0 || head > delta.size()) {
            return null;
        }
        List<Integer> part = new ArrayList<>(delta.subList(0, head));
        delta.subList(0, head).clear();
        return part;
    }

    int turn() {
        if (output.size() > 65536) {
            throw new IllegalStateException();
        }
        input = new ArrayList<>(output);
        return input.size();
    }

    int longest(int i, int what) {
        if (i < 0 || i >= input.size() || what < 0 || what > 1) {
            throw new IllegalArgumentException();
        }
        int[] found = longestAt(i);
        if (found[0] < 8) {
            return what == 0 ? 0 : -1;
        }
        return found[what];
    }

    int letter(int i) {
        if (i < 0 || i >= output.size()) {
            throw new IndexOutOfBoundsException();
        }
        return output.get(i);
    }

    int count(int what) {
        int[] counts = {input.size(), base.size(), output.size(), copies, fresh, damaged};
        return what >= 0 && what < counts.length ? counts[what] : -1;
    }
}
