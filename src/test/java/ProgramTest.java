/** Promises 4, 5 and 14: program, fault, statement. */
public final class ProgramTest {
    private static final int MIN = Integer.MIN_VALUE;
    private static final int MAX = Integer.MAX_VALUE;
    private static final String[] SORTS = {"put 2 3;", "get 3 1;", "swap 2 0 3 1;", "add 3 2 0;", "fence;", "wait;", "set 1 2;",
        "load 1 0;", "if 1 2 7;"};
    private static final int[][] PARTS = {{0, 2, 3}, {1, 3, 1}, {2, 2, 0, 3, 1}, {3, 3, 2, 0}, {4}, {5}, {6, 1, 2}, {7, 1, 0},
        {8, 1, 2, 7}};

    public static void main(String[] args) {
        howMany();
        emptyThen();
        formerStays();
        noHost();
        faultOfText();
        placeOfFault();
        latestText();
        faultOfOthers();
        aheadOfAny();
        sorts();
        numbersAsTold();
        statementOthers();
        Check.finish();
    }

    private static void howMany() {
        Check.sentence("The tape (empty then) is a host's PROGRAM: how many STATEMENTS.");
        FarStore x = new FarStore();
        Check.due("program(0) of an empty tape", 0, x.program(0));
        Check.due("program(1) of an empty tape", 0, x.program(1));
        for (int host = 0; host < 2; host++) {
            for (int count = 7; count >= 0; count--) {
                Check.due("program(" + host + ")", count, Check.tell(x, host, "fence;".repeat(count)));
                Check.due("about(" + host + ")", count, x.about(host));
                Check.due("about of the other host", 0, x.about(1 - host));
            }
        }
    }

    private static void emptyThen() {
        Check.sentence("The tape (empty then) is a host's PROGRAM");
        FarStore x = new FarStore();
        Check.due("program(0)", 1, Check.tell(x, 0, "wait;"));
        Check.due("about(2)", 0, x.about(2));
        Check.due("end(1)", -1, x.end(1));
        Check.due("program(1)", 0, x.program(1));
        Check.due("program(0) with a fault", -1, Check.tell(x, 0, "wait"));
        Check.due("about(2)", 0, x.about(2));
        Check.due("program(0) of what is left", 0, x.program(0));
        Check.tape(x, "wait;".repeat(7) + " ".repeat(165));
        Check.due("program(0) of a full tape", 7, x.program(0));
        Check.due("feed behind it", 20, x.feed(0x20202020, 0x20202020, 0x20202020, 0x20202020, 0x20202020));
        Check.due("program(1)", 0, x.program(1));
    }

    private static void formerStays() {
        Check.sentence("NONE: it has a FAULT, the former one stays");
        String[] faulty = {"?", "put 2 1;put 3 1;put 2 9;", "wait;".repeat(8), "put 2 1;put 2", "set 3 1;set 1 0;"};
        for (String text : faulty) {
            for (int host = 0; host < 2; host++) {
                int told = host;
                Check.dueUnchanged("program(" + host + ") of " + text, -1, Check::busy, x -> Check.tell(x, told, text),
                    Look.Part.FAULT, Look.Part.TAPE);
            }
        }
        FarStore x = Check.pair("wait;", "");
        Check.due("a fault at the 8th statement", -1, Check.tell(x, 0, "put 2 1;".repeat(8)));
        dueStatement(x, 0, 0, 5);
        Check.due("statement(0, 1, 0)", -1, x.statement(0, 1, 0));
        Check.due("walk()", 2, x.walk());
        Check.due("a good text then", 2, Check.tell(x, 0, "set 0 1;fence;"));
        dueStatement(x, 0, 0, 6, 0, 1);
    }

    private static void noHost() {
        Check.sentence("or (the tape stays) there is no such host.");
        for (int host : new int[] {-1, 2, 3, MIN, MAX}) {
            Check.dueUnchanged("program(" + host + ")", -1, Check::busy, x -> x.program(host));
            FarStore x = new FarStore();
            Check.tape(x, "fence");
            Check.due("program(" + host + ") of a faulty tape", -1, x.program(host));
            Check.due("about(2)", 5, x.about(2));
            Check.due("fault(0): no text has been read", -1, x.fault(0));
        }
    }

    private static void faultOfText() {
        Check.sentence("Of the latest text: 0 its FAULT (0 without)");
        Texts.dueGood(0, "", 0);
        Texts.dueGood(1, "wait;", 1);
        Texts.dueFault(0, "wait", 1, 4);
        Texts.dueFault(1, "put 2 1;", 2, 4);
        Texts.dueFault(0, "wait;".repeat(8), 3, 35);
    }

    private static void placeOfFault() {
        Check.sentence("1 its place (NONE without)");
        Texts.dueFault(0, "?", 1, 0);
        Texts.dueFault(0, " ".repeat(199) + ";", 1, 199);
        Texts.dueFault(0, " ".repeat(196) + "wait", 1, 200);
        Texts.dueGood(0, " ".repeat(195) + "wait;", 1);
    }

    private static void latestText() {
        Check.sentence("Of the latest text");
        FarStore x = new FarStore();
        Check.due("program(0)", -1, Check.tell(x, 0, "fence; ?"));
        Check.due("fault(1)", 7, x.fault(1));
        Check.tape(x, "put 9 9;");
        Check.due("fault(0): a tape is no text yet", 1, x.fault(0));
        Check.due("fault(1): a tape is no text yet", 7, x.fault(1));
        Check.due("program(2)", -1, x.program(2));
        Check.due("fault(1): nor for no host", 7, x.fault(1));
        Check.due("program(1)", -1, x.program(1));
        Check.due("fault(0) of either host's text", 2, x.fault(0));
        Check.due("fault(1) of either host's text", 4, x.fault(1));
        Check.due("program(0) of an empty tape", 0, x.program(0));
        Check.due("fault(0) of it", 0, x.fault(0));
        Check.due("fault(1) of it", -1, x.fault(1));
    }

    private static void faultOfOthers() {
        Check.sentence("NONE for others, and ahead of any.");
        for (int what : new int[] {-1, 2, 3, MIN, MAX}) {
            Check.dueUnchanged("fault(" + what + ")", -1, Check::busy, x -> x.fault(what));
        }
    }

    private static void aheadOfAny() {
        Check.sentence("NONE for others, and ahead of any.");
        FarStore x = new FarStore();
        for (int what = -1; what < 3; what++) {
            Check.due("fault(" + what + ") of a new object", -1, x.fault(what));
        }
        x.feed(0, 0, 0, 0, 0);
        x.program(-1);
        for (int what = -1; what < 3; what++) {
            Check.due("fault(" + what + ") ahead of any text", -1, x.fault(what));
        }
        Check.due("program(0)", -1, x.program(0));
        Check.due("fault(0)", 1, x.fault(0));
        Check.due("fault(1)", 0, x.fault(1));
    }

    private static void dueStatement(FarStore x, int host, int i, int... parts) {
        for (int what = -1; what < 6; what++) {
            Check.due("statement(" + host + ", " + i + ", " + what + ")",
                what >= 0 && what < parts.length ? parts[what] : -1, x.statement(host, i, what));
        }
    }

    private static void sorts() {
        Check.sentence("0 its sort (0 put, 1 get, 2 swap, 3 add, 4 fence, 5 wait, 6 set, 7 load, 8 if)");
        for (int place = 0; place < 7; place++) {
            for (int sort = 0; sort < SORTS.length; sort++) {
                // Among swaps, which have the most numbers, none of which may shine through.
                FarStore x = Check.alone(0, "swap 3 3 3 1;".repeat(place) + SORTS[sort] + "swap 3 3 3 1;".repeat(6 - place));
                dueStatement(x, 0, place, PARTS[sort]);
            }
        }
    }

    private static void numbersAsTold() {
        Check.sentence("1 .. 4 its NUMBERS as told.");
        FarStore x = Check.pair("", "put 0 1;get 1 0;swap 1 3 2 0;add 0 0 1;load 3 1;set 2 0;if 1 2 007;");
        dueStatement(x, 1, 0, 0, 0, 1);
        dueStatement(x, 1, 1, 1, 1, 0);
        dueStatement(x, 1, 2, 2, 1, 3, 2, 0);
        dueStatement(x, 1, 3, 3, 0, 0, 1);
        dueStatement(x, 1, 4, 7, 3, 1);
        dueStatement(x, 1, 5, 6, 2, 0);
        dueStatement(x, 1, 6, 8, 1, 2, 7);
        dueStatement(x, 1, 7);
        FarStore shorter = Check.pair("if 0 0 7;", "");
        dueStatement(shorter, 0, 0, 8, 0, 0, 7);
        Check.due("walk()", 2, shorter.walk());
        Check.due("missing(false, 1, 0)", -1, shorter.missing(false, 1, 0));
        dueStatement(shorter, 0, 0, 8, 0, 0, 7);
    }

    private static void statementOthers() {
        Check.sentence("NONE for others. ## Promise 15");
        int[][] others = {{-1, 0, 0}, {2, 0, 0}, {MIN, 0, 0}, {MAX, 0, 0}, {0, -1, 0}, {0, 2, 0}, {0, 7, 0}, {0, 8, 0}, {1, 3, 0},
            {1, -1, 1}, {0, MIN, 0}, {0, MAX, 1}, {0, 0, -1}, {0, 0, 3}, {0, 0, 4}, {0, 0, 5}, {1, 0, 4}, {1, 0, 5}, {0, 0, MIN},
            {0, 0, MAX}};
        for (int[] one : others) {
            Check.dueUnchanged("statement(" + one[0] + ", " + one[1] + ", " + one[2] + ")", -1, Check::busy,
                x -> x.statement(one[0], one[1], one[2]));
        }
        FarStore seven = Check.pair("wait;".repeat(7), "fence;");
        Check.due("statement(0, 6, 0)", 5, seven.statement(0, 6, 0));
        Check.due("statement(0, 7, 0)", -1, seven.statement(0, 7, 0));
        Check.due("statement(1, 0, 0)", 4, seven.statement(1, 0, 0));
        Check.due("statement(1, 1, 0)", -1, seven.statement(1, 1, 0));
        Check.due("a shorter program", 1, Check.tell(seven, 0, "wait;"));
        Check.due("statement(0, 1, 0) of what went", -1, seven.statement(0, 1, 0));
    }
}
