import java.util.ArrayList;
import java.util.Arrays;
import java.util.LinkedHashMap;
import java.util.List;
import java.util.Map;

/** What the words of the promises 1 to 11 come to. */
final class OnCalls {
    private static final Class<IllegalStateException> STATE = IllegalStateException.class;
    private static final Class<IllegalArgumentException> BAD = IllegalArgumentException.class;
    private static final Class<IndexOutOfBoundsException> OUTSIDE = IndexOutOfBoundsException.class;
    private static final int MOST = 65536;
    private static final int LEAST_INT = Integer.MIN_VALUE;
    private static final int GREATEST_INT = Integer.MAX_VALUE;
    private static final int[] BASE = Bytes.text("abcdefghi");
    private static final int[] INPUT = Bytes.text("?abcdefghi!bcdefghi.");
    private static final int[] DELTA = {9, 20, 1, '?', 144, 9, 1, '!', 145, 1, 8, 1, '.'};

    private final Checks checks;

    OnCalls(Checks checks) {
        this.checks = checks;
    }

    /** BASE, INPUT and OUTPUT, its DELTA, are those above; no count is 0. */
    private Run withTexts() {
        Run x = new Run();
        x.putBase(BASE);
        x.put(INPUT);
        checks.dueThrow("use of a text", ArithmeticException.class, x::use);
        x.make();
        return x;
    }

    private static Run withInput(int... bytes) {
        Run x = new Run();
        x.put(bytes);
        return x;
    }

    /** INPUT and OUTPUT are so many BYTES with a period of nine, BASE is nothing. */
    private static Run withLong(int length) {
        return Run.withLong(BASE, length);
    }

    void newObject() {
        for (int what = 0; what <= 5; what++) {
            checks.due("count(" + what + ")", new Run().count(what), 0);
        }
        Run x = new Run();
        checks.dueRefused("letter(0)", OUTSIDE, x, () -> x.letter(0));
        checks.dueRefused("longest(0, 0)", BAD, x, () -> x.longest(0, 0));
        checks.dueRefused("end(1)", BAD, x, () -> x.end(1));
        withTexts();
        checks.due("make behind another object's", x::make, 2);
        checks.dueOutput("make behind another object's", x, 0, 0);
    }

    void feedAddsTwenty() {
        Run x = new Run();
        x.feed(0x01020304, 0x05060708, 0x090a0b0c, 0x0d0e0f10, 0x11121314);
        checks.dueInput("feed", x, 1, 2, 3, 4, 5, 6, 7, 8, 9, 10, 11, 12, 13, 14, 15, 16, 17, 18, 19, 20);
        Run zeros = new Run();
        zeros.feed(0, 0, 0, 0, 0);
        checks.dueInput("feed of 0", zeros, new int[20]);
    }

    void feedHighestFirst() {
        Run x = new Run();
        x.feed(LEAST_INT, GREATEST_INT, -1, 1, 0xfe7f8001);
        checks.dueInput("feed", x, 128, 0, 0, 0, 127, 255, 255, 255, 255, 255, 255, 255, 0, 0, 0, 1, 254, 127, 128, 1);
    }

    void feedToInput() {
        Run x = withInput(7, 8, 9);
        x.feed(1, 2, 3, 4, 5);
        x.feed(6, 0, 0, 0, 0);
        int[] fed = {0, 0, 0, 1, 0, 0, 0, 2, 0, 0, 0, 3, 0, 0, 0, 4, 0, 0, 0, 5, 0, 0, 0, 6};
        checks.dueInput("feed behind three", x, Bytes.join(Bytes.row(7, 8, 9), fed, new int[16]));
    }

    void feedTooLong() {
        Run x = withLong(MOST);
        checks.dueRefused("feed behind 65536", STATE, x, () -> x.feed(1, 2, 3, 4, 5));
        x.end(19);
        checks.dueRefused("feed behind 65517", STATE, x, () -> x.feed(1, 2, 3, 4, 5));
        x.end(1);
        checks.due("feed behind 65516", () -> x.feed(1, 2, 3, 4, 5), MOST);
        checks.dueRefused("feed once more", STATE, x, () -> x.feed(1, 2, 3, 4, 5));
    }

    void feedAnswers() {
        Run x = new Run();
        checks.due("feed", () -> x.feed(0, 0, 0, 0, 0), 20);
        checks.due("feed again", () -> x.feed(-1, -1, -1, -1, -1), 40);
        x.end(3);
        checks.due("feed behind 37", () -> x.feed(1, 2, 3, 4, 5), 57);
    }

    void endTakesLast() {
        Run x = withInput(5, 6, 7, 8, 9);
        x.end(2);
        checks.dueInput("end(2)", x, 5, 6, 7);
        x.end(0);
        checks.dueInput("end(0)", x, 5, 6, 7);
        x.end(3);
        checks.dueInput("end(3)", x);
        x.feed(0, 0, 0, 0, 0);
        x.end(19);
        checks.dueInput("what is fed behind it", x, 0);
    }

    void endOfAsManyAsThere() {
        int[] refused = {-1, 6, 7, LEAST_INT, GREATEST_INT};
        for (int n : refused) {
            Run x = withInput(5, 6, 7, 8, 9);
            checks.dueRefused("end(" + n + ") of 5", BAD, x, () -> x.end(n));
        }
        Run x = withInput(5, 6, 7, 8, 9);
        checks.due("end(5) of 5", () -> x.end(5), 0);
        checks.due("end(0) of 0", () -> x.end(0), 0);
        checks.dueRefused("end(1) of 0", BAD, x, () -> x.end(1));
    }

    void endAnswers() {
        Run x = withInput(5, 6, 7, 8, 9);
        checks.due("end(0)", () -> x.end(0), 5);
        checks.due("end(2)", () -> x.end(2), 3);
        checks.due("end(1)", () -> x.end(1), 2);
        checks.due("end(2)", () -> x.end(2), 0);
    }

    void changeOfByteI() {
        for (int i = 0; i < 5; i++) {
            int[] bytes = {5, 6, 7, 8, 9};
            Run x = withInput(bytes);
            x.change(i, 255);
            bytes[i] = 255 - bytes[i];
            checks.dueInput("change(" + i + ", 255)", x, bytes);
        }
    }

    void changeOfWhatIsThere() {
        int[] refused = {-1, 5, 6, LEAST_INT, GREATEST_INT};
        for (int i : refused) {
            Run x = withInput(5, 6, 7, 8, 9);
            checks.dueRefused("change(" + i + ", 1) of 5", BAD, x, () -> x.change(i, 1));
        }
        Run x = withInput(5, 6, 7, 8, 9);
        checks.due("change(4, 1)", () -> x.change(4, 1), 0);
        x.end(1);
        checks.dueRefused("change(4, 1) of 4", BAD, x, () -> x.change(4, 1));
    }

    void changeXors() {
        int[][] xorsAndBytes = {{0, 170}, {255, 85}, {1, 171}, {128, 42}, {170, 0}};
        for (int[] xored : xorsAndBytes) {
            Run x = withInput(170);
            x.change(0, xored[0]);
            checks.dueInput("change(0, " + xored[0] + ") of 170", x, xored[1]);
            x.change(0, xored[0]);
            checks.dueInput("the same again", x, 170);
        }
        int[] refused = {-1, 256, LEAST_INT, GREATEST_INT};
        for (int value : refused) {
            Run x = withInput(170);
            checks.dueRefused("change(0, " + value + ")", BAD, x, () -> x.change(0, value));
        }
    }

    void baseIsInput() {
        Run x = withTexts();
        x.base();
        checks.dueBase("base", x, INPUT);
        x.put(Bytes.text("-bcdefghi.-"));
        checks.due("place in the new BASE", () -> x.longest(1, 1), 11);
        x.make();
        x.base();
        checks.dueBase("base again", x, Bytes.text("-bcdefghi.-"));
        x.put(INPUT);
        checks.due("what was in the old BASE alone", () -> x.longest(1, 0), 0);
        x.put();
        x.base();
        checks.dueBase("base of nothing", x);
    }

    void inputIsEmptyThen() {
        Run x = withTexts();
        x.base();
        checks.due("count(0)", () -> x.count(0), 0);
        checks.dueInput("base", x);
        checks.dueRefused("end(1)", BAD, x, () -> x.end(1));
        x.feed(1, 2, 3, 4, 5);
        x.change(0, 7);
        x.end(19);
        checks.dueInput("feed, change and end behind it", x, 7);
        checks.dueBase("feed, change and end behind it", x, INPUT);
    }

    void baseAnswers() {
        Run x = withTexts();
        checks.due("base", x::base, 20);
        checks.due("base of nothing", x::base, 0);
        checks.due("base of 65536", withLong(MOST)::base, MOST);
    }

    void makeDelta() {
        checks.dueOutput("make", withTexts(), DELTA);
        Run x = withTexts();
        x.put(9, 1, 1, 'x');
        x.use();
        x.put(INPUT);
        x.make();
        checks.dueOutput("make behind use", x, DELTA);
        x.change(0, 1);
        x.make();
        int[] changed = DELTA.clone();
        changed[3] ^= 1;
        checks.dueOutput("make behind change", x, changed);
        x.base();
        x.make();
        checks.dueOutput("make behind base", x, 20, 0);
    }

    void makeLeavesBoth() {
        Run x = withTexts();
        checks.dueInput("make", x, INPUT);
        checks.dueBase("make", x, BASE);
        x.put();
        x.make();
        checks.dueInput("make of nothing", x);
        checks.dueBase("make of nothing", x, BASE);
    }

    void makeAnswers() {
        Run x = withTexts();
        checks.due("make", x::make, DELTA.length);
        x.put();
        checks.due("make of nothing", x::make, 2);
        checks.due("make of a new object", new Run()::make, 2);
        Run more = withInput(Bytes.differing(300));
        checks.due("make of 300 NEW", more::make, 1 + 2 + 3 + 300);
    }

    void useReads() {
        Run x = withTexts();
        x.turn();
        x.use();
        checks.dueOutput("use of what make made", x, INPUT);
        x.put(9, 7, 145, 6, 3, 2, 0, 255, 144, 2);
        x.use();
        checks.dueOutput("use", x, 'g', 'h', 'i', 0, 255, 'a', 'b');
        x.put(9, 0);
        x.use();
        checks.dueOutput("use that makes nothing", x);
        x.put(8, 0);
        checks.dueDamaged("a DELTA on another BASE", x);
        checks.dueOutput("use that is DAMAGED", x);
    }

    void useLeavesBoth() {
        Run x = withTexts();
        x.turn();
        x.use();
        checks.dueInput("use", x, DELTA);
        checks.dueBase("use", x, BASE);
        checks.due("use again", x::use, 20);
        x.change(0, 1);
        checks.dueDamaged("a DELTA on another BASE", x);
        x.change(0, 1);
        checks.dueInput("use that is DAMAGED", x, DELTA);
        checks.dueBase("use that is DAMAGED", x, BASE);
    }

    void useAnswers() {
        Run x = withTexts();
        x.turn();
        checks.due("use", x::use, 20);
        x.put(9, 0);
        checks.due("use that makes nothing", x::use, 0);
        Run full = withLong(MOST);
        full.base();
        full.put(128, 128, 4, 128, 128, 4, 128);
        checks.due("use that makes 65536", full::use, MOST);
    }

    void turnIsOutput() {
        Run x = withTexts();
        x.turn();
        checks.dueInput("turn", x, DELTA);
        x.use();
        x.turn();
        checks.dueInput("turn behind use", x, INPUT);
        Run none = withInput(1, 2, 3);
        none.turn();
        checks.dueInput("turn of nothing", none);
    }

    void outputStays() {
        Run x = withTexts();
        x.turn();
        checks.dueOutput("turn", x, DELTA);
        x.change(0, 255);
        x.end(4);
        x.feed(-1, -1, -1, -1, -1);
        checks.dueOutput("change, end and feed behind it", x, DELTA);
        x.turn();
        checks.dueInput("turn again", x, DELTA);
    }

    /** OUTPUT is the DELTA of so many BYTES, all of them NEW. */
    private static Run withLongDelta(int length) {
        Run x = withLong(length);
        x.make();
        return x;
    }

    void turnTooLong() {
        Run most = withLongDelta(65020);
        checks.due("turn of 65536", most::turn, MOST);
        checks.due("use of it", most::use, 65020);
        Run more = withLongDelta(65021);
        checks.dueRefused("turn of 65537", STATE, more, more::turn);
        more.end(65000);
        checks.dueRefused("turn of 65537 again", STATE, more, more::turn);
        Run all = withLongDelta(MOST);
        checks.dueRefused("turn of 66057", STATE, all, all::turn);
    }

    void turnAnswers() {
        Run x = withTexts();
        checks.due("turn", x::turn, DELTA.length);
        x.use();
        checks.due("turn behind use", x::turn, 20);
        checks.due("turn of nothing", new Run()::turn, 0);
    }

    void longestAtPlaceI() {
        Run x = withTexts();
        int[][] placesAndAnswers = {{1, 9, 0}, {2, 8, 1}, {11, 8, 1}};
        for (int[] due : placesAndAnswers) {
            checks.due("longest(" + due[0] + ", 0)", () -> x.longest(due[0], 0), due[1]);
            checks.due("longest(" + due[0] + ", 1)", () -> x.longest(due[0], 1), due[2]);
        }
        x.change(10, '!' ^ 'a');
        checks.due("longest behind change", () -> x.longest(10, 0), 9);
        x.end(3);
        checks.due("longest behind end", () -> x.longest(10, 0), 0);
        x.base();
        x.put(INPUT);
        checks.due("longest behind base", () -> x.longest(0, 0), 10);
    }

    void longestOfWhatIsThere() {
        int[] refused = {-1, 20, 21, LEAST_INT, GREATEST_INT};
        Run x = withTexts();
        for (int i : refused) {
            checks.dueRefused("longest(" + i + ", 0)", BAD, x, () -> x.longest(i, 0));
            checks.dueRefused("longest(" + i + ", 1)", BAD, x, () -> x.longest(i, 1));
        }
        checks.due("longest(0, 0)", () -> x.longest(0, 0), 0);
        checks.due("longest(19, 0)", () -> x.longest(19, 0), 0);
        x.end(20);
        checks.dueRefused("longest(0, 0) of nothing", BAD, x, () -> x.longest(0, 0));
    }

    private static Run withAlike(int many) {
        Run x = new Run();
        x.putBase(Bytes.join(Bytes.text("--"), Bytes.cut(BASE, 0, many)));
        x.put(BASE);
        return x;
    }

    void length0Below8() {
        int[] lengths = {0, 0, 0, 0, 0, 0, 0, 0, 8, 9};
        for (int many = 0; many <= 9; many++) {
            checks.due("longest(0, 0), " + many + " alike", withAlike(many).longest(0, 0), lengths[many]);
        }
    }

    void placeMinus1Below8() {
        int[] places = {-1, -1, -1, -1, -1, -1, -1, -1, 2, 2};
        for (int many = 0; many <= 9; many++) {
            checks.due("longest(0, 1), " + many + " alike", withAlike(many).longest(0, 1), places[many]);
        }
        Run x = withTexts();
        int[] refused = {-1, 2, LEAST_INT, GREATEST_INT};
        for (int what : refused) {
            checks.dueRefused("longest(1, " + what + ")", BAD, x, () -> x.longest(1, what));
        }
    }

    void letterOfOutput() {
        Run x = withTexts();
        for (int i = 0; i < DELTA.length; i++) {
            int place = i;
            checks.due("letter(" + i + ")", () -> x.letter(place), DELTA[i]);
        }
        x.put(9, 4, 4, 0, 127, 128, 255);
        x.use();
        int[] bytes = {0, 127, 128, 255};
        for (int i = 0; i < 4; i++) {
            int place = i;
            checks.due("letter(" + i + ") behind use", () -> x.letter(place), bytes[i]);
        }
    }

    void letterIsNotThere() {
        int[] refused = {-1, 13, 14, LEAST_INT, GREATEST_INT};
        Run x = withTexts();
        for (int i : refused) {
            checks.dueRefused("letter(" + i + ") of 13", OUTSIDE, x, () -> x.letter(i));
        }
        x.put(9, 1, 1, 'x');
        x.use();
        checks.dueRefused("letter(1) of 1", OUTSIDE, x, () -> x.letter(1));
        Run empty = new Run();
        checks.dueRefused("letter(0) of nothing", OUTSIDE, empty, () -> empty.letter(0));
    }

    void countOfInput() {
        Run x = withTexts();
        checks.due("count(0)", () -> x.count(0), 20);
        x.end(3);
        checks.due("count(0) behind end", () -> x.count(0), 17);
        x.feed(1, 2, 3, 4, 5);
        checks.due("count(0) behind feed", () -> x.count(0), 37);
        x.turn();
        checks.due("count(0) behind turn", () -> x.count(0), 13);
        x.base();
        checks.due("count(0) behind base", () -> x.count(0), 0);
    }

    void countOfBase() {
        Run x = withTexts();
        checks.due("count(1)", () -> x.count(1), 9);
        x.base();
        checks.due("count(1) behind base", () -> x.count(1), 20);
        x.base();
        checks.due("count(1) behind base of nothing", () -> x.count(1), 0);
    }

    void countOfOutput() {
        Run x = withTexts();
        checks.due("count(2)", () -> x.count(2), 13);
        x.turn();
        x.use();
        checks.due("count(2) behind use", () -> x.count(2), 20);
        x.base();
        x.make();
        checks.due("count(2) behind make of nothing", () -> x.count(2), 2);
    }

    void countOfCopies() {
        Run x = withTexts();
        checks.due("count(3)", () -> x.count(3), 2);
        x.turn();
        x.use();
        x.turn();
        x.base();
        checks.due("count(3) behind other calls", () -> x.count(3), 2);
        x.make();
        checks.due("count(3) behind make of nothing", () -> x.count(3), 0);
        x.put(INPUT);
        x.make();
        checks.due("count(3) behind make of one COPY", () -> x.count(3), 1);
        x.make();
        checks.due("count(3) behind the same again", () -> x.count(3), 1);
    }

    void countOfNew() {
        Run x = withTexts();
        checks.due("count(4)", () -> x.count(4), 3);
        x.turn();
        x.use();
        x.base();
        checks.due("count(4) behind other calls", () -> x.count(4), 3);
        x.make();
        checks.due("count(4) behind make of nothing", () -> x.count(4), 0);
        x.put(Bytes.repeat(200, '-'));
        x.make();
        checks.due("count(4) behind make of 200 NEW", () -> x.count(4), 200);
        x.make();
        checks.due("count(4) behind the same again", () -> x.count(4), 200);
    }

    void count0BeforeMake() {
        Run x = new Run();
        x.putBase(BASE);
        x.put(9, 10, 144, 9, 1, 'x');
        x.longest(0, 0);
        x.use();
        x.turn();
        checks.due("count(3)", () -> x.count(3), 0);
        checks.due("count(4)", () -> x.count(4), 0);
        x.make();
        checks.due("count(3) behind make", () -> x.count(3), 1);
        checks.due("count(4) behind make", () -> x.count(4), 1);
    }

    void countOfDamaged() {
        Run x = withTexts();
        checks.due("count(5)", () -> x.count(5), 1);
        checks.dueDamaged("a text", x);
        checks.dueDamaged("the same again", x);
        checks.due("count(5)", () -> x.count(5), 3);
        x.turn();
        x.use();
        checks.dueRefused("letter(-1)", OUTSIDE, x, () -> x.letter(-1));
        checks.dueRefused("end(-1)", BAD, x, () -> x.end(-1));
        x.make();
        x.base();
        checks.due("count(5) behind other calls", () -> x.count(5), 3);
    }

    void countOfOthers() {
        int[] others = {-1, 6, 7, LEAST_INT, GREATEST_INT};
        for (int what : others) {
            checks.due("count(" + what + ")", () -> withTexts().count(what), -1);
            checks.due("count(" + what + ") of a new object", () -> new Run().count(what), -1);
        }
    }

    /** All that a run has. */
    private static Map<String, String> state(Run x) {
        Map<String, String> state = new LinkedHashMap<>();
        state.put("INPUT", Arrays.toString(x.textOfInput()));
        state.put("BASE", Arrays.toString(x.textOfBase()));
        state.put("OUTPUT", Arrays.toString(x.output()));
        List<Run.Question> counts = List.of(new Run.Question("count", 0, 3), new Run.Question("count", 0, 4),
                new Run.Question("count", 0, 5));
        List<String> answers = x.ask(counts);
        for (int k = 0; k < counts.size(); k++) {
            state.put(counts.get(k).toString(), answers.get(k));
        }
        return state;
    }

    private void dueOnly(String what, Run x, Checks.Call call, String... changed) {
        Map<String, String> before = state(x);
        Checks.outcome(call);
        Map<String, String> after = state(x);
        List<String> differs = new ArrayList<>(before.keySet());
        differs.removeIf(part -> before.get(part).equals(after.get(part)));
        checks.due("what " + what + " changed", differs.toString(), Arrays.toString(changed));
    }

    void onlyChangesDescribed() {
        Run x = withTexts();
        dueOnly("feed", x, () -> x.feed(1, 2, 3, 4, 5), "INPUT");
        dueOnly("end", x, () -> x.end(3), "INPUT");
        dueOnly("change", x, () -> x.change(0, 1), "INPUT");
        dueOnly("make", x, x::make, "OUTPUT", "count(4)");
        dueOnly("longest", x, () -> x.longest(1, 0));
        dueOnly("letter", x, () -> x.letter(1));
        dueOnly("count", x, () -> x.count(1));
        dueOnly("turn", x, x::turn, "INPUT");
        dueOnly("use", x, x::use, "OUTPUT");
        dueOnly("base", x, x::base, "INPUT", "BASE");
        dueOnly("make of nothing", x, x::make, "OUTPUT", "count(3)", "count(4)");
        dueOnly("use of nothing", x, x::use, "count(5)");
    }
}
