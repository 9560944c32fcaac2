import java.util.ArrayList;
import java.util.Arrays;
import java.util.List;
import java.util.stream.IntStream;

/**
 * A run of calls on one object, with its face. The document promises nothing beyond 512 calls, so no object gets more
 * here: the run is kept, and who wants to know all that it answers asks new objects which had the same calls.
 */
final class Run {
    static final int MOST_CALLS = 512;
    private static final int[] COPY_OF_SEVEN = {144, 7};
    /** What putNothingOfBase makes INPUT. */
    static final int[] NOTHING_OF_BASE = Bytes.cut(Bytes.repeat(9363, 144, 7, 144, 7, 144, 7, 144), 0, 65536);

    /** A call on any object that is given. */
    interface Step {
        long on(DeltaPress x);
    }

    /** A call that only asks. */
    record Question(String method, int i, int what) implements Step {
        @Override
        public long on(DeltaPress x) {
            return switch (method) {
                case "count" -> x.count(what);
                case "letter" -> x.letter(i);
                default -> x.longest(i, what);
            };
        }

        @Override
        public String toString() {
            return switch (method) {
                case "count" -> "count(" + what + ")";
                case "letter" -> "letter(" + i + ")";
                default -> "longest(" + i + ", " + what + ")";
            };
        }
    }

    /** What was asked and what was answered, in the same order; and, as nothing else tells INPUT whole, its DELTA. */
    record Answers(List<Question> questions, List<String> outcomes, String delta) {
    }

    private final DeltaPress object = new DeltaPress();
    private final List<Step> steps = new ArrayList<>();
    /** What answers() found, as long as no call came behind it. */
    private Answers known = null;

    int calls() {
        return steps.size();
    }

    private int call(Step step) {
        if (steps.size() >= MOST_CALLS) {
            throw new AssertionError("a test makes more than 512 calls on one object");
        }
        known = null;
        steps.add(step);
        return (int) step.on(object);
    }

    int feed(int a, int b, int c, int d, int e) {
        return call(x -> x.feed(a, b, c, d, e));
    }

    int end(int n) {
        return call(x -> x.end(n));
    }

    /** Answers 0, so that it is told like the other calls. */
    int change(int i, int value) {
        return call(x -> {
            x.change(i, value);
            return 0;
        });
    }

    int base() {
        return call(DeltaPress::base);
    }

    int make() {
        return call(DeltaPress::make);
    }

    int use() {
        return call(DeltaPress::use);
    }

    int turn() {
        return call(DeltaPress::turn);
    }

    int longest(int i, int what) {
        return call(new Question("longest", i, what));
    }

    int letter(int i) {
        return call(new Question("letter", i, 0));
    }

    int count(int what) {
        return call(new Question("count", 0, what));
    }

    /** Sets INPUT to these BYTES. */
    void put(int... bytes) {
        end(count(0));
        int whole = bytes.length / 20 * 20;
        for (int from = 0; from < whole; from += 20) {
            feedFrom(bytes, from);
        }
        int rest = bytes.length - whole;
        if (rest > 0) {
            feedFrom(bytes, whole);
            end(20 - rest);
        }
    }

    private void feedFrom(int[] bytes, int from) {
        int[] n = Bytes.numbers(bytes, from);
        feed(n[0], n[1], n[2], n[3], n[4]);
    }

    void putBase(int... bytes) {
        put(bytes);
        base();
    }

    /** INPUT and OUTPUT become the period again and again, by readings that make it up to 32 times as long. */
    void putLong(int[] period, int length) {
        put(period);
        int made = period.length;
        do {
            int next = Math.min(length, 32 * made);
            base();
            put(new Delta(made).copies(made, next).bytes());
            use();
            turn();
            made = next;
        } while (made < length);
    }

    /** INPUT and OUTPUT are the period again and again, BASE is nothing. */
    static Run withLong(int[] period, int length) {
        Run x = new Run();
        x.putLong(period, length);
        x.base();
        x.base();
        x.turn();
        return x;
    }

    /**
     * BASE and INPUT become texts of many BYTES of which no eight in a row are alike. BASE is a row of COPIES of seven
     * BYTES each; so it can make the DELTA of all those COPIES, which makes, of the same BASE, INPUT: seams where there
     * are none in BASE.
     */
    void putNothingOfBase(int inBase) {
        int most = NOTHING_OF_BASE.length;
        int copies = most / 7;
        putLong(COPY_OF_SEVEN, inBase);
        base();
        put(new Delta(inBase).fresh(Bytes.join(Bytes.number(inBase), Bytes.number(most)))
                .copy(0, 2 * copies).fresh(144, most % 7).bytes());
        use();
        turn();
        use();
        turn();
    }

    /** An object that had the same calls. */
    private DeltaPress again() {
        DeltaPress x = new DeltaPress();
        for (Step step : steps) {
            Checks.outcome(() -> step.on(x));
        }
        return x;
    }

    /** Each object that had the same calls is asked as much as is left of its 512. */
    List<String> ask(List<Question> questions) {
        int left = MOST_CALLS - steps.size();
        if (left < 1) {
            throw new AssertionError("a test leaves no call to ask");
        }
        int objects = (questions.size() + left - 1) / left;
        return IntStream.range(0, objects).parallel().boxed().flatMap(k -> {
            DeltaPress x = again();
            int to = Math.min(questions.size(), (k + 1) * left);
            return questions.subList(k * left, to).stream().map(asked -> Checks.outcome(() -> asked.on(x)));
        }).toList();
    }

    /** Every answer of count, letter and longest, and those on both sides of what is there. */
    Answers answers() {
        if (known == null) {
            List<Question> questions = allQuestions();
            known = new Answers(questions, ask(questions), delta());
        }
        return known;
    }

    /** The same questions once more. */
    Answers answersAsTo(Answers before) {
        known = new Answers(before.questions(), ask(before.questions()), delta());
        return known;
    }

    /** Another run that begins with the same calls. */
    private Run onward() {
        Run more = new Run();
        steps.forEach(step -> Checks.outcome(() -> more.call(step)));
        return more;
    }

    /** What make would make OUTPUT. */
    private String delta() {
        Run more = onward();
        more.make();
        return Arrays.toString(more.output());
    }

    /** INPUT, as its DELTA makes it again; the DELTA must not be too long to be INPUT. */
    int[] textOfInput() {
        Run more = onward();
        more.make();
        more.turn();
        more.use();
        return more.output();
    }

    /** BASE, as a COPY of all of it makes it. */
    int[] textOfBase() {
        Run more = onward();
        int length = more.count(1);
        more.put(new Delta(length).copies(length, length).bytes());
        more.use();
        return more.output();
    }

    private List<Question> allQuestions() {
        List<Question> all = new ArrayList<>();
        List<Integer> sizes = ask(questionsOfCount()).stream().map(Integer::valueOf).toList();
        all.addAll(questionsOfCount());
        for (int i : placesRound(sizes.get(2))) {
            all.add(new Question("letter", i, 0));
        }
        for (int i : placesRound(sizes.get(0))) {
            all.add(new Question("longest", i, 0));
            all.add(new Question("longest", i, 1));
        }
        return all;
    }

    private static List<Question> questionsOfCount() {
        int[] whats = {0, 1, 2, 3, 4, 5, 6, -1, Integer.MIN_VALUE, Integer.MAX_VALUE};
        return IntStream.of(whats).mapToObj(what -> new Question("count", 0, what)).toList();
    }

    private static int[] placesRound(int length) {
        int[] outside = {Integer.MIN_VALUE, -1, length, Integer.MAX_VALUE};
        return IntStream.concat(IntStream.of(outside), IntStream.range(0, length)).toArray();
    }

    int[] output() {
        int length = Integer.parseInt(ask(List.of(new Question("count", 0, 2))).get(0));
        List<Question> letters = IntStream.range(0, length).mapToObj(i -> new Question("letter", i, 0)).toList();
        return ask(letters).stream().mapToInt(Integer::parseInt).toArray();
    }
}
