import com.sun.management.ThreadMXBean;
import java.lang.management.ManagementFactory;

/**
 * What a run makes, in the room that all its calls share: what is made with the object, and 512 times what the dearest
 * call makes.
 *
 * It is measured in bytes of the heap. A field or an element has at least one and an object at least 16, so who keeps
 * below the number of fields and elements in bytes keeps below it in fields and elements too, and below some 450,000
 * objects.
 */
public final class RoomTest {
    private static final Checks CHECKS = new Checks();
    private static final ThreadMXBean THREADS = (ThreadMXBean) ManagementFactory.getThreadMXBean();
    private static final int MOST = 65536;
    private static final long FIELDS_AND_ELEMENTS = 7_300_000;
    private static final int CALLS = 512;

    private static long leftToEachCall = 0;
    private static long dearest = 0;
    private static DeltaPress x = null;

    public static void main(String[] args) {
        firstUses();
        leftToEachCall = (FIELDS_AND_ELEMENTS - madeByConstructor()) / CALLS;
        CHECKS.due("the object leaves room to the calls", leftToEachCall > 0 ? 1 : 0, 1);
        feeds();
        firstLongest();
        firstMake();
        readings();
        tooManyCopies();
        growingTexts();
        refused();
        CHECKS.due("a call that makes too much is seen", madeBy(() -> new byte[(int) leftToEachCall].length)
                > leftToEachCall ? 1 : 0, 1);
        System.out.println("the dearest call made " + dearest + " bytes, left to each are " + leftToEachCall);
        CHECKS.finish();
    }

    /** The machine loads classes at their first use, which must not be counted. */
    private static void firstUses() {
        x = new DeltaPress();
        leftToEachCall = Long.MAX_VALUE;
        readings();
        refused();
        dearest = 0;
    }

    private static long madeByConstructor() {
        return madeBy(() -> {
            x = new DeltaPress();
            return 0;
        });
    }

    private static long madeBy(Checks.Call call) {
        long before = bytesMade();
        call.answer();
        return bytesMade() - before;
    }

    private static long bytesMade() {
        return THREADS.getThreadAllocatedBytes(Thread.currentThread().getId());
    }

    /** Makes the call and looks at what it made. */
    private static void small(String what, Checks.Call call) {
        looked(what, madeBy(call));
    }

    private static void smallThrow(String what, Checks.Call call) {
        looked(what + " refused", madeBy(() -> {
            try {
                call.answer();
            } catch (RuntimeException e) {
                return 1;
            }
            throw new AssertionError(what + " was not refused");
        }));
    }

    private static void looked(String what, long made) {
        dearest = Math.max(dearest, made);
        boolean isTooMuch = made > leftToEachCall;
        CHECKS.due(what + " made " + made + " bytes, too much (1, else 0):", isTooMuch ? 1 : 0, 0);
    }

    private static void feeds() {
        x = new DeltaPress();
        for (int k = 1; k < CALLS; k++) {
            int number = k;
            small("feed " + k, () -> x.feed(number, 0, 0, 0, 0));
        }
        small("end", () -> x.end(20 * (CALLS - 1)));
        longText();
        small("end", () -> x.end(MOST));
        for (int k = 0; k < 400; k++) {
            int number = k;
            small("feed " + k + " behind a long text", () -> x.feed(number, 0, 0, 0, 0));
        }
    }

    /** INPUT and OUTPUT are a text of 65536 BYTES, every call of its making looked at. */
    private static void longText() {
        x = new DeltaPress();
        for (int k = 0; k < 10; k++) {
            small("feed", () -> x.feed(1, 2, 3, 4, 5));
        }
        small("base", x::base);
        int[] delta = Bytes.join(Bytes.number(200), Bytes.number(MOST), Bytes.repeat(MOST / 200, 144, 200),
                Bytes.row(144, MOST % 200));
        int feeds = (delta.length + 19) / 20;
        for (int k = 0; k < feeds; k++) {
            int[] n = Bytes.numbers(delta, 20 * k);
            small("feed", () -> x.feed(n[0], n[1], n[2], n[3], n[4]));
        }
        small("end", () -> x.end(20 * feeds - delta.length));
        small("use", x::use);
        small("turn", x::turn);
        CHECKS.due("a long text", x.count(0) + x.count(2), 2 * MOST);
    }

    private static void firstLongest() {
        longText();
        small("base", x::base);
        small("feed", () -> x.feed(1, 2, 3, 4, 5));
        small("the first longest", () -> x.longest(0, 0));
        small("the second longest", () -> x.longest(0, 1));
    }

    private static void firstMake() {
        longText();
        small("base", x::base);
        small("turn", x::turn);
        small("the first make", x::make);
        small("letter", () -> x.letter(0));
        small("count", () -> x.count(3));
        small("change", () -> {
            x.change(0, 255);
            return 0;
        });
    }

    /** Every row of the object becomes as long as it may be, again and again. */
    private static void readings() {
        longText();
        for (int times = 0; times < 20; times++) {
            small("base", x::base);
            small("turn", x::turn);
            small("make", x::make);
            small("longest", () -> x.longest(0, 0));
            small("turn", x::turn);
            small("use", x::use);
            small("base", x::base);
            small("base, empty", x::base);
            small("turn", x::turn);
            small("make, all NEW", x::make);
            smallThrow("turn", x::turn);
            small("base", x::base);
            small("feed", () -> x.feed(0x80800480, 0x80048000, 0, 0, 0));
            small("end", () -> x.end(13));
            small("use", x::use);
            small("turn", x::turn);
        }
        CHECKS.due("the long text is still there", x.count(0) + x.count(2), 2 * MOST);
    }

    /** Each BYTE of 128 is a COPY of the whole BASE: what is too much must not be made before it is refused. */
    private static void tooManyCopies() {
        longText();
        small("base", x::base);
        small("feed", () -> x.feed(0x80800480, 0x80048080, 0x80808080, 0x80808080, 0x80808080));
        smallThrow("use", x::use);
    }

    /** Each BASE is longer than the one before. */
    private static void growingTexts() {
        x = new DeltaPress();
        for (int feeds = 1; feeds < 29; feeds++) {
            for (int k = 0; k < feeds; k++) {
                int number = k;
                small("feed", () -> x.feed(number, 1, number, 2, number));
            }
            small("make", x::make);
            small("longest", () -> x.longest(19, 0));
            small("base", x::base);
        }
    }

    private static void refused() {
        longText();
        smallThrow("feed", () -> x.feed(1, 2, 3, 4, 5));
        smallThrow("end", () -> x.end(MOST + 1));
        smallThrow("change", () -> {
            x.change(MOST, 0);
            return 0;
        });
        smallThrow("use", x::use);
        smallThrow("longest", () -> x.longest(-1, 0));
        smallThrow("letter", () -> x.letter(MOST));
    }
}
