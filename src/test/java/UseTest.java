import java.lang.management.ManagementFactory;

/** How long an object is used, and how much room that takes. */
public final class UseTest {
    private static final int CALLS = 512;
    // Twice what its rows have at the most: 12,000 states, as many steps, 16,384 slots.
    private static final long BYTES = 500_000;

    public static void main(String[] args) {
        everyCall();
        sameCall();
        dearestCalls();
        Check.finish();
    }

    /** Sixteen calls, over and over: the last answer is that of the 512th call. */
    private static void everyCall() {
        Check.sentence("An object is used for at most 512 calls after it has been made");
        FarStore x = new FarStore();
        for (int calls = 0; calls < CALLS; calls += 16) {
            boolean isOdd = calls / 16 % 2 == 1;
            x.falls(isOdd);
            Check.due("word(2, 0, 7)", true, x.word(2, 0, 7));
            // "put 2 1;"
            Check.due("feed", 20, x.feed(0x70757420, 0x3220313B, 0, 0, 0));
            Check.due("end(8)", 8, x.end(8));
            Check.due("program(0)", 1, x.program(0));
            Check.due("fault(0)", 0, x.fault(0));
            Check.due("statement(0, 0, 1)", 2, x.statement(0, 0, 1));
            Check.due("about(3)", isOdd ? 1 : 0, x.about(3));
            Check.due("ends(3)", isOdd ? 3 : 2, x.ends(3));
            Check.due("both(1, 0)", 1, x.both(1, 0));
            Check.due("step(1)", -1, x.step(1));
            Check.due("outcome(16, 4)", 2, x.outcome(16, 4));
            Check.due("step(1)", 2, x.step(1));
            Check.due("missing(false, 1, 0)", -1, x.missing(false, 1, 0));
            Check.due("program(2)", -1, x.program(2));
            Check.due("walk()", isOdd ? 10 : 3, x.walk());
        }
    }

    private static void sameCall() {
        Check.sentence("An object is used for at most 512 calls after it has been made");
        FarStore walked = new FarStore();
        FarStore fed = new FarStore();
        for (int calls = 0; calls < CALLS; calls++) {
            Check.due("walk()", 1, walked.walk());
            Check.due("feed", calls < 10 ? 20 * (calls + 1) : -1, fed.feed(1, 2, 3, 4, 5));
        }
    }

    /** All calls of a run share one room: what an object makes doesn't grow with what it is asked. */
    private static void dearestCalls() {
        Check.sentence("An object is used for at most 512 calls after it has been made");
        // Once ahead, so that the classes are there.
        Large.fencesJustTold().missing(false, 0, 0);
        FarStore told = Large.justTold();
        FarStore untold = Large.justUntold();
        FarStore fenced = Large.fencesJustTold();
        long before = allocated();
        int answers = 0;
        for (int round = 0; round < 240; round++) {
            told.falls(round % 2 == 0);
            answers += told.walk() > 0 ? 1 : 0;
            untold.falls(round % 2 == 1);
            answers += untold.walk() == (round % 2 == 1 ? -2 : 3107) ? 1 : 0;
            answers += round % 8 != 0 || fenced.missing(false, 0, 0) == -1 ? 1 : 0;
        }
        long bytes = allocated() - before;
        Check.due("answers as due", 3 * 240, answers);
        Check.due("three objects make " + bytes + " bytes, at most " + BYTES + " each", true, bytes <= 3 * BYTES);
    }

    private static long allocated() {
        return ((com.sun.management.ThreadMXBean) ManagementFactory.getThreadMXBean()).getCurrentThreadAllocatedBytes();
    }
}
