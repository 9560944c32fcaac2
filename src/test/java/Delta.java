import java.util.ArrayList;
import java.util.List;
import java.util.function.UnaryOperator;

/** A DELTA built step by step as a test wants it, sound or not, with the two numbers before it. */
final class Delta {
    private final int inBase;
    private int[] steps = {};
    /** What each COPY and each row of NEW BYTES makes of a BASE. */
    private final List<UnaryOperator<int[]>> pieces = new ArrayList<>();
    private int makes = 0;

    Delta(int inBase) {
        this.inBase = inBase;
    }

    /** With the BYTES that are not 0, as make writes it. */
    static int[] copyOf(int place, int length) {
        return copyWith(0, place, length);
    }

    /** Those of the seven BYTES whose bits are asked for stand there though they are 0. */
    static int[] copyWith(int bits, int place, int length) {
        int[] bytes = {place & 255, place >>> 8 & 255, place >>> 16 & 255, place >>> 24,
            length & 255, length >>> 8 & 255, length >>> 16};
        int head = 128;
        int[] rest = {};
        for (int bit = 0; bit < bytes.length; bit++) {
            if (bytes[bit] != 0 || (bits >>> bit & 1) == 1) {
                head |= 1 << bit;
                rest = Bytes.join(rest, Bytes.row(bytes[bit]));
            }
        }
        return Bytes.join(Bytes.row(head), rest);
    }

    Delta step(int makesMore, int... bytes) {
        steps = Bytes.join(steps, bytes);
        makes += makesMore;
        return this;
    }

    Delta copy(int place, int length) {
        pieces.add(base -> Bytes.cut(base, place, place + length));
        return step(length, copyOf(place, length));
    }

    /** The first BYTES of BASE again and again, until so many are made. */
    Delta copies(int length, int whole) {
        while (makes < whole) {
            copy(0, Math.min(length, whole - makes));
        }
        return this;
    }

    Delta fresh(int... bytes) {
        pieces.add(base -> bytes);
        return step(bytes.length, Bytes.join(Bytes.row(bytes.length), bytes));
    }

    int[] made(int[] base) {
        return Bytes.join(pieces.stream().map(piece -> piece.apply(base)).toArray(int[][]::new));
    }

    int makes() {
        return makes;
    }

    int[] steps() {
        return steps;
    }

    int[] bytes() {
        return Bytes.join(Bytes.number(inBase), Bytes.number(makes), steps);
    }
}
