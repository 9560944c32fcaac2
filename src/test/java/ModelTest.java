import java.util.ArrayList;
import java.util.List;
import java.util.Random;

/** Runs of calls, drawn from fixed seeds, against the plain model: every answer, and at the end all of OUTPUT. */
public final class ModelTest {
    private static final Checks CHECKS = new Checks();
    private static final int RUNS = 2000;

    private final Random random;
    private final Run x = new Run();
    private final PlainModel model = new PlainModel();
    private final String name;
    /** Few letters make many repeats. */
    private final int letters;

    private ModelTest(int seed) {
        random = new Random(seed);
        name = "run " + seed;
        letters = 1 + random.nextInt(seed % 3 == 0 ? 200 : 3);
    }

    public static void main(String[] args) {
        for (int seed = 0; seed < RUNS; seed++) {
            new ModelTest(seed).run();
        }
        CHECKS.finish();
    }

    private void run() {
        int most = 20 + random.nextInt(380);
        while (x.calls() < most) {
            switch (random.nextInt(12)) {
                case 0, 1, 2 -> feed();
                case 3 -> end(someOfInput());
                case 4 -> change();
                case 5 -> base();
                case 6, 7 -> make();
                case 8 -> use();
                case 9 -> turn();
                case 10 -> longest();
                default -> handmadeDelta();
            }
        }
        atTheEnd();
    }

    private void due(String call, Checks.Call ours, Checks.Call theirs) {
        String got = Checks.outcome(ours);
        CHECKS.due(name + ", call " + x.calls() + ": " + call, got, Checks.outcome(theirs));
    }

    private void atTheEnd() {
        List<Run.Question> questions = new ArrayList<>();
        for (int what = -1; what <= 6; what++) {
            questions.add(new Run.Question("count", 0, what));
        }
        for (int i = -1; i <= model.count(2); i++) {
            questions.add(new Run.Question("letter", i, 0));
        }
        for (int times = 0; times < 60; times++) {
            questions.add(new Run.Question("longest", within(model.count(0)), random.nextInt(2)));
        }
        List<String> want = questions.stream().map(asked -> Checks.outcome(() -> answerOfModel(asked))).toList();
        CHECKS.dueEach("at the end of " + name, questions, x.ask(questions), want);
    }

    private int answerOfModel(Run.Question asked) {
        return switch (asked.method()) {
            case "count" -> model.count(asked.what());
            case "letter" -> model.letter(asked.i());
            default -> model.longest(asked.i(), asked.what());
        };
    }

    private int number() {
        int number = 0;
        for (int k = 0; k < 4; k++) {
            number = number << 8 | random.nextInt(letters);
        }
        return number;
    }

    private void feed() {
        for (int times = 1 + random.nextInt(6); times > 0; times--) {
            int a = number();
            int b = random.nextInt(4) == 0 ? number() : a;
            int c = number();
            due("feed", () -> x.feed(a, b, c, a, b), () -> model.feed(a, b, c, a, b));
        }
    }

    /** Now and then one more than is there, or one less than none. */
    private int within(int length) {
        return random.nextInt(length + 3) - 1;
    }

    private int someOfInput() {
        int some = within(model.count(0));
        return random.nextInt(3) == 0 ? some : Math.min(some, random.nextInt(20));
    }

    private void end(int n) {
        due("end(" + n + ")", () -> x.end(n), () -> model.end(n));
    }

    private void change() {
        int i = within(model.count(0));
        int value = random.nextInt(10) == 0 ? random.nextInt(260) - 2 : 1 << random.nextInt(8);
        due("change(" + i + ", " + value + ")", () -> x.change(i, value), () -> model.change(i, value));
    }

    private void base() {
        due("base()", x::base, model::base);
    }

    private void make() {
        due("make()", x::make, model::make);
        due("count(3)", () -> x.count(3), () -> model.count(3));
        due("count(4)", () -> x.count(4), () -> model.count(4));
        letters();
    }

    private void use() {
        due("use()", x::use, model::use);
        due("count(5)", () -> x.count(5), () -> model.count(5));
        letters();
    }

    private void turn() {
        if (model.count(2) < 3000) {
            due("turn()", x::turn, model::turn);
        }
    }

    private void longest() {
        for (int times = 0; times < 4; times++) {
            int i = within(model.count(0));
            int what = random.nextInt(20) == 0 ? random.nextInt(5) - 2 : random.nextInt(2);
            due("longest(" + i + ", " + what + ")", () -> x.longest(i, what), () -> model.longest(i, what));
        }
    }

    /** A few letters: the run has calls for no more. */
    private void letters() {
        due("count(2)", () -> x.count(2), () -> model.count(2));
        for (int times = 0; times < 3; times++) {
            int i = within(model.count(2));
            due("letter(" + i + ")", () -> x.letter(i), () -> model.letter(i));
        }
    }

    /** A DELTA of steps as no make would choose them, sound or nearly so. */
    private void handmadeDelta() {
        int inBase = model.count(1);
        Delta built = new Delta(0);
        for (int times = random.nextInt(8); times > 0; times--) {
            if (inBase > 0 && random.nextInt(3) > 0) {
                int place = random.nextInt(inBase);
                int length = 1 + random.nextInt(inBase - place);
                built.step(length, Delta.copyWith(someBits(), place, length));
            } else {
                built.fresh(Bytes.repeat(1 + random.nextInt(12), random.nextInt(256)));
            }
        }
        int[] delta = Bytes.join(looseNumber(inBase), looseNumber(built.makes()), built.steps());
        for (int times = random.nextInt(3); times > 0; times--) {
            delta[random.nextInt(delta.length)] ^= 1 << random.nextInt(8);
        }
        putDelta(delta);
        use();
        for (int times = random.nextInt(3); times > 0; times--) {
            end(1);
            use();
        }
    }

    private int[] looseNumber(int number) {
        int[] bytes = Bytes.number(number);
        while (bytes.length < 4 && random.nextInt(3) == 0) {
            bytes[bytes.length - 1] |= 128;
            bytes = Bytes.join(bytes, Bytes.row(0));
        }
        return bytes;
    }

    private int someBits() {
        int bits = 0;
        for (int bit = 0; bit < 7; bit++) {
            bits |= random.nextInt(5) == 0 ? 1 << bit : 0;
        }
        return bits;
    }

    private void putDelta(int[] delta) {
        end(model.count(0));
        for (int from = 0; from < delta.length; from += 20) {
            int[] n = Bytes.numbers(delta, from);
            due("feed", () -> x.feed(n[0], n[1], n[2], n[3], n[4]), () -> model.feed(n));
        }
        end((20 - delta.length % 20) % 20);
    }
}
