/** Promises 2 and 3: feed and end. */
public final class TapeTest {
    public static void main(String[] args) {
        lengths();
        order();
        ends();
        fullTape();
        Check.finish();
    }

    private static void lengths() {
        FarStore x = new FarStore();
        for (int n = 20; n <= 200; n += 20) {
            Check.due("feed", n, x.feed(0, 0, 0, 0, 0));
        }
        Check.due("feed of a full tape", -1, x.feed(0, 0, 0, 0, 0));
        Check.due("about(2)", 200, x.about(2));
        Check.due("end(181)", 181, x.end(181));
        Check.due("feed to 201", -1, x.feed(0, 0, 0, 0, 0));
        Check.due("about(2)", 181, x.about(2));
        Check.due("end(180)", 180, x.end(180));
        Check.due("feed to 200", 200, x.feed(0, 0, 0, 0, 0));
    }

    private static void order() {
        FarStore x = new FarStore();
        // "fence;wait;set 0 1; "
        Check.due("feed", 20, x.feed(0x66656E63, 0x653B7761, 0x69743B73, 0x65742030, 0x20313B20));
        Check.due("feed", 40, x.feed(0x6C6F6164, 0x20302031, 0x3B202020, 0x20202020, 0x0A0A0A0A));
        Check.due("program(0)", 4, x.program(0));
        int[] sorts = {4, 5, 6, 7};
        for (int i = 0; i < 4; i++) {
            Check.due("statement sort", sorts[i], x.statement(0, i, 0));
        }
        Check.due("set's value", 1, x.statement(0, 2, 2));
        Check.due("the tape is empty then", 0, x.about(2));
    }

    private static void ends() {
        FarStore x = new FarStore();
        Check.due("end(0)", 0, x.end(0));
        Check.due("end(1)", -1, x.end(1));
        Check.tape(x, "fence;wait;");
        Check.due("end(-1)", -1, x.end(-1));
        Check.due("end(12)", -1, x.end(12));
        Check.due("end(MIN)", -1, x.end(Integer.MIN_VALUE));
        Check.due("end(MAX)", -1, x.end(Integer.MAX_VALUE));
        Check.due("about(2)", 11, x.about(2));
        Check.due("end(11)", 11, x.end(11));
        Check.due("end(6)", 6, x.end(6));
        Check.due("what was cut is gone", -1, x.end(11));
        Check.due("program(1)", 1, x.program(1));
    }

    private static void fullTape() {
        FarStore x = new FarStore();
        String text = " ".repeat(194) + "fence;";
        Check.due("program of 200 bytes", 1, Check.tell(x, 0, text));
        Check.due("program of 200 bytes without an end", -1, Check.tell(x, 0, text.substring(1) + "f"));
        Check.due("fault(0)", 1, x.fault(0));
        Check.due("fault(1)", 199, x.fault(1));
        Check.due("program of 200 bytes without its ;", -1, Check.tell(x, 0, " " + text.substring(0, 199)));
        Check.due("fault(0)", 1, x.fault(0));
        Check.due("fault(1)", 200, x.fault(1));
        Check.due("the former program stays", 1, x.about(0));
    }
}
