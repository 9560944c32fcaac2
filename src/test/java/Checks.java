import java.util.ArrayList;
import java.util.Arrays;
import java.util.List;

/** The tally of wrong answers, and what is due behind every refused call. */
final class Checks {
    /** One fault may make a whole long text wrong. */
    private static final int MOST_TOLD = 100;

    private int wrong = 0;
    private int made = 0;
    private String sentence = "";

    interface Call {
        long answer();
    }

    /** What follows is due by these words of the document; they stand before every wrong answer. */
    void says(String words) {
        sentence = words + ": ";
    }

    void due(String what, long got, long want) {
        due(what, Long.toString(got), Long.toString(want));
    }

    void due(String what, String got, String want) {
        made++;
        if (!got.equals(want)) {
            wrong++;
            if (wrong > MOST_TOLD) {
                return;
            }
            System.out.println(sentence + what + " answered " + inShort(got) + ", due is " + inShort(want));
        }
    }

    private static String inShort(String answer) {
        return answer.length() <= 500 ? answer : answer.substring(0, 500) + "..";
    }

    void due(String what, Call call, long want) {
        due(what, outcome(call), Long.toString(want));
    }

    void dueThrow(String what, Class<? extends RuntimeException> want, Call call) {
        due(what, outcome(call), "throws." + want.getSimpleName());
    }

    /** The answer, or the very class of what was thrown: a subclass of the due exception is another answer. */
    static String outcome(Call call) {
        try {
            return Long.toString(call.answer());
        } catch (RuntimeException e) {
            return "throws." + e.getClass().getSimpleName();
        }
    }

    void finish() {
        System.out.println(wrong == 0 ? "all " + made + " answers are as due" : wrong + " answers are not as due");
        if (wrong != 0) {
            System.exit(1);
        }
    }

    void dueOutput(String what, Run x, int... want) {
        due("OUTPUT of " + what, Arrays.toString(x.output()), Arrays.toString(want));
    }

    void dueInput(String what, Run x, int... want) {
        due("INPUT of " + what, Arrays.toString(x.textOfInput()), Arrays.toString(want));
    }

    void dueBase(String what, Run x, int... want) {
        due("BASE of " + what, Arrays.toString(x.textOfBase()), Arrays.toString(want));
    }

    /** The call throws this, and every answer of count, letter and longest is as before it, and so is the DELTA. */
    void dueRefused(String what, Class<? extends RuntimeException> want, Run x, Call call) {
        Run.Answers before = x.answers();
        dueThrow(what, want, call);
        dueAnswers("behind refused " + what, x.answersAsTo(before), before);
    }

    /** As dueRefused, but for count(5), which is one more. */
    void dueDamaged(String what, Run x) {
        Run.Answers before = x.answers();
        dueThrow("use() of " + what, ArithmeticException.class, x::use);
        List<String> want = new ArrayList<>(before.outcomes());
        int counted = before.questions().indexOf(new Run.Question("count", 0, 5));
        want.set(counted, Integer.toString(Integer.parseInt(want.get(counted)) + 1));
        dueAnswers("behind DAMAGED " + what, x.answersAsTo(before),
                new Run.Answers(before.questions(), want, before.delta()));
    }

    private void dueAnswers(String what, Run.Answers got, Run.Answers want) {
        dueEach(what, want.questions(), got.outcomes(), want.outcomes());
        due("make " + what, got.delta(), want.delta());
    }

    void dueEach(String what, List<Run.Question> questions, List<String> got, List<String> want) {
        for (int k = 0; k < questions.size(); k++) {
            due(questions.get(k) + " " + what, got.get(k), want.get(k));
        }
    }
}
