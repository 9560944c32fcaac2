import java.util.Random;

/** Runs of up to 512 calls, drawn from fixed seeds, against the plain model. */
public final class ModelTest {
    private static final Checks CHECKS = new Checks();
    private static final int RUNS = 600;

    private final Random random;
    private final DeltaPress x = new DeltaPress();
    private final PlainModel model = new PlainModel();
    private final String name;
    /** Few letters make many repeats. */
    private final int letters;
    private int calls = 0;

    private ModelTest(int seed) {
        random = new Random(seed);
        name = "run " + seed;
        letters = 1 + random.nextInt(seed % 3 == 0 ? 200 : 3);
    }

    public static void main(String[] args) {
        for (int seed = 0; seed < RUNS; seed++) {
            new ModelTest(seed).run();
        }
        CHECKS.finish();
    }

    private void run() {
        while (calls < 480) {
            switch (random.nextInt(12)) {
                case 0, 1, 2 -> feed();
                case 3 -> end(someOfInput());
                case 4 -> change();
                case 5 -> base();
                case 6, 7 -> make();
                case 8 -> use();
                case 9 -> turn();
                case 10 -> longest();
                default -> handmadeDelta();
            }
        }
        for (int what = -1; what <= 6; what++) {
            int asked = what;
            due("count(" + what + ")", () -> x.count(asked), () -> model.count(asked));
        }
    }

    private void due(String call, Checks.Call ours, Checks.Call theirs) {
        calls++;
        CHECKS.due(name + ", call " + calls + ": " + call, Checks.outcome(ours), Checks.outcome(theirs));
    }

    private int number() {
        int number = 0;
        for (int k = 0; k < 4; k++) {
            number = number << 8 | random.nextInt(letters);
        }
        return number;
    }

    private void feed() {
        for (int times = 1 + random.nextInt(6); times > 0; times--) {
            int a = number();
            int b = random.nextInt(4) == 0 ? number() : a;
            int c = number();
            due("feed", () -> x.feed(a, b, c, a, b), () -> model.feed(a, b, c, a, b));
        }
    }

    /** Now and then one more than is there, or one less than none. */
    private int within(int length) {
        return random.nextInt(length + 3) - 1;
    }

    private int someOfInput() {
        int some = within(x.count(0));
        return random.nextInt(3) == 0 ? some : Math.min(some, random.nextInt(20));
    }

    private void end(int n) {
        due("end(" + n + ")", () -> x.end(n), () -> model.end(n));
    }

    private void change() {
        int i = within(x.count(0));
        int value = random.nextInt(10) == 0 ? random.nextInt(260) - 2 : 1 << random.nextInt(8);
        due("change(" + i + ", " + value + ")", () -> {
            x.change(i, value);
            return 0;
        }, () -> model.change(i, value));
    }

    private void base() {
        due("base()", x::base, model::base);
    }

    private void make() {
        due("make()", x::make, model::make);
        due("count(3)", () -> x.count(3), () -> model.count(3));
        due("count(4)", () -> x.count(4), () -> model.count(4));
        letters();
    }

    private void use() {
        due("use()", x::use, model::use);
        due("count(5)", () -> x.count(5), () -> model.count(5));
        letters();
    }

    private void turn() {
        if (x.count(2) < 3000) {
            due("turn()", x::turn, model::turn);
        }
    }

    private void longest() {
        for (int times = 0; times < 4; times++) {
            int i = within(x.count(0));
            int what = random.nextInt(20) == 0 ? random.nextInt(5) - 2 : random.nextInt(2);
            due("longest(" + i + ", " + what + ")", () -> x.longest(i, what), () -> model.longest(i, what));
        }
    }

    /** All of OUTPUT is compared, but counted as the few calls that a run would spend on it. */
    private void letters() {
        due("count(2)", () -> x.count(2), () -> model.count(2));
        StringBuilder ours = new StringBuilder();
        StringBuilder theirs = new StringBuilder();
        for (int i = -1; i <= x.count(2); i++) {
            int place = i;
            ours.append(Checks.outcome(() -> x.letter(place))).append(' ');
            theirs.append(Checks.outcome(() -> model.letter(place))).append(' ');
        }
        calls += 3;
        CHECKS.due(name + ", call " + calls + ": OUTPUT", ours.toString(), theirs.toString());
    }

    /** A DELTA of steps as no make would choose them, sound or nearly so. */
    private void handmadeDelta() {
        int inBase = x.count(1);
        int[] steps = {};
        int makes = 0;
        for (int times = random.nextInt(8); times > 0; times--) {
            if (inBase > 0 && random.nextInt(3) > 0) {
                int place = random.nextInt(inBase);
                int length = 1 + random.nextInt(inBase - place);
                steps = Checks.join(steps, copy(place, length));
                makes += length;
            } else {
                int many = 1 + random.nextInt(12);
                steps = Checks.join(steps, new int[] {many}, Checks.repeat(many, random.nextInt(256)));
                makes += many;
            }
        }
        int[] delta = Checks.join(looseNumber(inBase), looseNumber(makes), steps);
        for (int times = random.nextInt(3); times > 0; times--) {
            delta[random.nextInt(delta.length)] ^= 1 << random.nextInt(8);
        }
        putDelta(delta);
        use();
        for (int times = random.nextInt(3); times > 0; times--) {
            end(1);
            use();
        }
    }

    private int[] looseNumber(int number) {
        int[] bytes = Checks.number(number);
        while (bytes.length < 4 && random.nextInt(3) == 0) {
            bytes[bytes.length - 1] |= 128;
            bytes = Checks.join(bytes, new int[] {0});
        }
        return bytes;
    }

    private int[] copy(int place, int length) {
        int[] bytes = {place & 255, place >>> 8, 0, 0, length & 255, length >>> 8, 0};
        int[] copy = {128};
        for (int bit = 0; bit < bytes.length; bit++) {
            if (bytes[bit] != 0 || random.nextInt(5) == 0) {
                copy[0] |= 1 << bit;
                copy = Checks.join(copy, new int[] {bytes[bit]});
            }
        }
        return copy;
    }

    private void putDelta(int[] delta) {
        end(x.count(0));
        for (int from = 0; from < delta.length; from += 20) {
            int[] n = Checks.numbers(delta, from);
            due("feed", () -> x.feed(n[0], n[1], n[2], n[3], n[4]), () -> model.feed(n));
        }
        end((20 - delta.length % 20) % 20);
    }
}
