/** Promises 2 and 3: feed and end. */
public final class TapeTest {
    public static void main(String[] args) {
        howMany();
        highestFirst();
        behindTheTape();
        moreThan200();
        firstBytesAlone();
        notSoMany();
        Check.finish();
    }

    private static FarStore full() {
        FarStore x = Check.busy();
        Check.tape(x, "wait;".repeat(6) + " ".repeat(165) + "wait;");
        return x;
    }

    private static void howMany() {
        Check.sentence("Twenty bytes come behind the tape, the highest of a first: how many it has.");
        FarStore x = new FarStore();
        for (int n = 20; n <= 200; n += 20) {
            Check.due("feed", n, x.feed(0, 0, 0, 0, 0));
            Check.due("about(2)", n, x.about(2));
        }
        Check.due("end(7)", 7, x.end(7));
        Check.due("feed behind 7", 27, x.feed(0, 0, 0, 0, 0));
        Check.due("end(0)", 0, x.end(0));
        Check.due("feed of an empty tape", 20, x.feed(0, 0, 0, 0, 0));
    }

    /** A byte that is no token, at each place of the twenty: the fault tells where it came. */
    private static void highestFirst() {
        Check.sentence("Twenty bytes come behind the tape, the highest of a first");
        for (int place = 0; place < 20; place++) {
            for (int one : new int[] {0, '?', 127, 128, 255}) {
                int[] fed = {0x20202020, 0x20202020, 0x20202020, 0x20202020, 0x20202020};
                int shift = 24 - place % 4 * 8;
                fed[place / 4] = fed[place / 4] & ~(255 << shift) | one << shift;
                FarStore x = new FarStore();
                x.feed(fed[0], fed[1], fed[2], fed[3], fed[4]);
                Check.due("program(0)", -1, x.program(0));
                Check.due("fault(1) of byte " + one, place, x.fault(1));
            }
        }
        FarStore x = new FarStore();
        // "fence;wait;set 0 1; "
        Check.due("feed", 20, x.feed(0x66656E63, 0x653B7761, 0x69743B73, 0x65742030, 0x20313B20));
        Check.due("program(0)", 3, x.program(0));
        Check.due("the set's value", 1, x.statement(0, 2, 2));
    }

    private static void behindTheTape() {
        Check.sentence("Twenty bytes come behind the tape");
        FarStore x = new FarStore();
        // "wait;fence;wait;wait" and ";fence; ..": the word goes on where the tape ended.
        Check.due("feed", 20, x.feed(0x77616974, 0x3B66656E, 0x63653B77, 0x6169743B, 0x77616974));
        Check.due("feed", 40, x.feed(0x3B66656E, 0x63653B20, 0x20202020, 0x20202020, 0x20202020));
        Check.due("program(1)", 5, x.program(1));
        int[] sorts = {5, 4, 5, 5, 4};
        for (int i = 0; i < sorts.length; i++) {
            Check.due("statement(1, " + i + ", 0)", sorts[i], x.statement(1, i, 0));
        }
        Check.tape(x, "wait;fence");
        Check.due("feed behind what end() left", 30, x.feed(0x3B202020, 0x20202020, 0x20202020, 0x20202020, 0x20202020));
        Check.due("program(0)", 2, x.program(0));
    }

    private static void moreThan200() {
        Check.sentence("NONE, and none come, if there would be more than 200.");
        FarStore x = new FarStore();
        for (int n = 20; n <= 200; n += 20) {
            x.feed(0x20202020, 0x20202020, 0x20202020, 0x20202020, 0x20202020);
        }
        Check.due("feed to 220", -1, x.feed(0, 0, 0, 0, 0));
        Check.due("about(2)", 200, x.about(2));
        for (int n = 199; n > 180; n--) {
            Check.due("end(" + n + ")", n, x.end(n));
            Check.due("feed to " + (n + 20), -1, x.feed(0, 0, 0, 0, 0));
            Check.due("about(2)", n, x.about(2));
        }
        Check.due("end(180)", 180, x.end(180));
        Check.due("feed to 200", 200, x.feed(0x20202020, 0x20202020, 0x20202020, 0x20202020, 0x20202020));
        Check.due("none of those refused came", 0, x.program(0));
        Check.dueUnchanged("feed of a full tape", -1, TapeTest::full, full -> full.feed(1, 2, 3, 4, 5));
    }

    private static void firstBytesAlone() {
        Check.sentence("The tape has its first n bytes alone: n.");
        String text = "wait;fence;wait;";
        for (int n = 0; n <= text.length(); n++) {
            FarStore x = new FarStore();
            Check.tape(x, text);
            Check.due("end(" + n + ")", n, x.end(n));
            Check.due("about(2)", n, x.about(2));
            int whole = n == 16 ? 3 : n == 11 ? 2 : n == 5 ? 1 : n == 0 ? 0 : -1;
            Check.due("program(0) of " + n + " bytes", whole, x.program(0));
        }
        FarStore x = new FarStore();
        Check.tape(x, text);
        Check.due("end(11)", 11, x.end(11));
        Check.due("end(11) again", 11, x.end(11));
        Check.due("end(12): what was cut is gone", -1, x.end(12));
        Check.due("end(0)", 0, x.end(0));
        Check.due("end(1): what was cut is gone", -1, x.end(1));
        dueCut("put 2 12;", 7, 7);
        dueCut("waits;", 4, 4);
        dueCut("waits;", 3, 0);
    }

    /** Words and numbers end where the tape was cut, whatever was behind it. */
    private static void dueCut(String text, int n, int place) {
        FarStore x = new FarStore();
        Check.tape(x, text);
        Check.due("end(" + n + ")", n, x.end(n));
        Check.due("program(0) of the first " + n + " of " + text, -1, x.program(0));
        Check.due("fault(0)", 1, x.fault(0));
        Check.due("fault(1)", place, x.fault(1));
    }

    private static void notSoMany() {
        Check.sentence("NONE, and nothing is done, if it has not so many, or n is below 0.");
        FarStore x = new FarStore();
        Check.due("end(0) of an empty tape", 0, x.end(0));
        Check.due("end(1) of an empty tape", -1, x.end(1));
        Check.due("end(-1) of an empty tape", -1, x.end(-1));
        for (int n : new int[] {-1, -2, 16, 17, 200, Integer.MIN_VALUE, Integer.MAX_VALUE}) {
            Check.dueUnchanged("end(" + n + ") of 15 bytes", -1, Check::busy, busy -> busy.end(n));
        }
        Check.dueUnchanged("end(15) of 15 bytes", 15, Check::busy, busy -> busy.end(15));
        Check.dueUnchanged("end(201) of 200 bytes", -1, TapeTest::full, full -> full.end(201));
        Check.dueUnchanged("end(200) of 200 bytes", 200, TapeTest::full, full -> full.end(200));
    }
}
