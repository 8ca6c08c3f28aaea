/** Promises 10, 11 and 12: both, outcome and step; and what the terms of part II say of rows. */
public final class RowTest {
    private static final int MIN = Integer.MIN_VALUE;
    private static final int MAX = Integer.MAX_VALUE;

    public static void main(String[] args) {
        firstStepsOfShortestRows();
        orderOfSteps();
        places();
        programsEnds();
        bothNone();
        bothUntold();
        outcomeOfGoodEnds();
        fourValues();
        setAlone();
        outcomeNone();
        outcomeOthers();
        outcomeUntold();
        stepsOfRow();
        wishesByPlaces();
        latestThatToldANumber();
        firstOfLikeOnes();
        noSuchStep();
        Check.finish();
    }

    private static void firstStepsOfShortestRows() {
        Check.sentence("each the first of those that lie on a shortest row");
        FarStore x = Check.pair("set 0 1;", "set 2 1;");
        // Host 0's statement is ahead of host 1's, but leads to none of these.
        Check.dueBoth(x, 0, 1, "1");
        Check.dueBoth(x, 1, 0, "0");
        FarStore last = Check.pair("set 0 1;", "set 2 1;put 0 2;");
        Check.dueOutcome(last, 2, 1, "0115");
        Check.dueOutcome(last, 1, 1, "1150");
        FarStore longer = Check.pair("load 0 0;if 0 0 1;load 1 0;", "put 0 1;");
        Check.dueBoth(longer, 3, 1, "001");
        Check.dueBoth(longer, 2, 1, "1500");
    }

    private static void orderOfSteps() {
        Check.sentence("(STEPS in this order: host 0's STATEMENT, host 1's, WISHES of host 0's QUEUE by places, of host 1's,"
            + " FALLS of host 0, of 1)");
        Check.dueBoth(Check.pair("set 0 1;", "set 2 1;"), 1, 1, "01");
        Check.dueBoth(Check.pair("put 2 1;wait;", "set 3 1;"), 2, 1, "0120");
        Check.dueBoth(Check.pair("get 2 0;put 3 1;wait;", ""), 3, 0, "00220");
        Check.dueBoth(Check.pair("get 2 0;get 2 0;put 3 1;wait;", ""), 4, 0, "0002220");
        Check.dueBoth(Check.pair("", "get 0 0;put 1 1;wait;"), 0, 3, "11551");
        Check.dueOutcome(Check.pair("put 2 1;", "put 0 1;"), 17, 5, "0125");
        Check.dueBoth(Check.pair("put 2 1;wait;", "put 0 1;wait;"), 2, 2, "012051");
        FarStore falls = Check.pair("put 2 1;", "put 0 1;");
        falls.falls(true);
        Check.dueOutcome(falls, 17, 5, "0125");
    }

    private static void places() {
        Check.sentence("The fewest STEPS to a STATE in which host 0 is ahead of STATEMENT a, host 1 of b (their numbers from 0;");
        FarStore x = Check.pair("put 2 1;put 2 1;put 2 1;put 2 1;", "get 0 0;fence;put 1 1;wait;");
        Check.dueBoth(x, 0, 0, "");
        Check.dueBoth(x, 3, 0, "000");
        Check.dueBoth(x, 4, 0, "00020");
        Check.dueBoth(x, 0, 1, "1");
        Check.dueBoth(x, 0, 2, "151");
        Check.dueBoth(x, 0, 4, "151151");
        Check.dueBoth(x, 4, 4, "00012051151");
        // A host that is broken, or fell, still is where it is.
        FarStore broken = Check.pair("put 2 1;", "set 2 1;");
        broken.word(2, 0, 0);
        broken.falls(true);
        Check.dueBoth(broken, 1, 1, "01");
    }

    private static void programsEnds() {
        Check.sentence("the program's end: as many as there are)");
        for (int a = 0; a <= 7; a++) {
            FarStore x = Check.pair("wait;".repeat(a), "wait;".repeat(7 - a));
            Check.dueBoth(x, a, 7 - a, "0".repeat(a) + "1".repeat(7 - a));
            Check.dueBoth(x, a + 1, 7 - a, null);
            Check.dueBoth(x, a, 8 - a, null);
        }
    }

    private static void bothNone() {
        Check.sentence("NONE: none can come, or there are none such; -2 as walk(). ## Promise 11");
        FarStore x = Check.pair("if 0 0 2;wait;wait;set 0 1;", "if 1 3 1;if 0 0 7;wait;");
        Check.dueBoth(x, 1, 0, null);
        Check.dueBoth(x, 2, 0, null);
        Check.dueBoth(x, 3, 0, "0");
        Check.dueBoth(x, 4, 2, null);
        Check.dueBoth(x, 4, 3, "0011");
        int[][] others = {{-1, 0}, {0, -1}, {3, 0}, {0, 4}, {8, 0}, {0, 8}, {9, 0}, {16, 0}, {MAX, 0}, {0, MAX}, {MIN, 0},
            {0, MIN}};
        for (int[] one : others) {
            Check.dueUnchanged("both(" + one[0] + ", " + one[1] + ")", -1, Check::busy, y -> y.both(one[0], one[1]));
        }
        Check.dueUnchanged("both(1, 1), where no state is", -1, Check::busy, y -> y.both(1, 1));
    }

    private static void bothUntold() {
        Check.sentence("or there are none such; -2 as walk(). ## Promise 11");
        FarStore x = Large.justUntold();
        Check.due("both(0, 0)", -2, x.both(0, 0));
        Check.due("both(7, 6)", -2, x.both(7, 6));
        Check.due("both(8, 6): there are none such", -1, x.both(8, 6));
        Check.due("both(7, 7): there are none such", -1, x.both(7, 7));
        x.falls(false);
        Check.due("both(0, 0) without falls", 0, x.both(0, 0));
    }

    private static void outcomeOfGoodEnds() {
        Check.sentence("The fewest STEPS to a GOOD END in which WORDS are as told");
        FarStore x = Check.pair("set 0 1;set 0 2;put 2 1;", "");
        Check.dueOutcome(x, 0, 1, null);
        Check.dueOutcome(x, 1, 1, null);
        Check.dueOutcome(x, 2, 1, "0002");
        Check.dueOutcome(x, 2, 5, null);
        Check.dueOutcome(x, 2 | 1 << 4, 5, "0002");
        x.word(2, 1, 0);
        // The end is broken now, though its words are as told.
        Check.dueOutcome(x, 2 | 1 << 4, 5, null);
        FarStore fallen = Check.pair("set 0 1;", "");
        fallen.falls(true);
        Check.dueOutcome(fallen, 0, 1, null);
        Check.dueOutcome(fallen, 1, 1, "0");
        FarStore fewest = Check.pair("load 0 0;if 0 0 1;load 1 0;", "put 0 1;");
        Check.dueOutcome(fewest, 1, 15, "0015");
    }

    private static void fourValues() {
        Check.sentence("four values of two bits, the first WORD lowest");
        FarStore x = new FarStore();
        x.word(0, 1, 7);
        x.word(1, 2, 7);
        x.word(2, 3, 7);
        x.word(3, 0, 7);
        for (int values = 0; values < 256; values++) {
            Check.due("outcome(" + values + ", 15)", values == 1 + 2 * 4 + 3 * 16 ? 0 : -1, x.outcome(values, 15));
        }
        x.word(3, 3, 7);
        x.word(0, 3, 7);
        x.word(1, 3, 7);
        Check.due("outcome(255, 15)", 0, x.outcome(255, 15));
        Check.due("outcome(254, 15)", -1, x.outcome(254, 15));
    }

    private static void setAlone() {
        Check.sentence("those of a set (bits) alone.");
        for (int differs = 0; differs < 16; differs++) {
            FarStore x = new FarStore();
            int values = 0;
            for (int w = 0; w < 4; w++) {
                x.word(w, 2, 7);
                values |= ((differs >> w & 1) == 0 ? 2 : 1) << 2 * w;
            }
            for (int set = 0; set < 16; set++) {
                Check.due("outcome(" + values + ", " + set + ")", (set & differs) == 0 ? 0 : -1, x.outcome(values, set));
            }
        }
    }

    private static void outcomeNone() {
        Check.sentence("NONE: none can come; others; -2 as walk(). ## Promise 12");
        FarStore x = Check.pair("put 2 1;", "");
        Check.dueOutcome(x, 0, 4, null);
        Check.dueOutcome(x, 32, 4, null);
        x.word(2, 0, 5);
        Check.dueOutcome(x, 0, 0, null);
        Check.dueUnchanged("outcome(1, 1)", -1, Check::busy, y -> y.outcome(1, 1));
    }

    private static void outcomeOthers() {
        Check.sentence("NONE: none can come; others; -2 as walk(). ## Promise 12");
        Check.dueOutcome(new FarStore(), 255, 0, "");
        Check.dueOutcome(new FarStore(), 0, 15, "");
        int[][] others = {{-1, 0}, {256, 0}, {0, -1}, {0, 16}, {256, 15}, {-256, 15}, {512, 0}, {0, 32}, {MAX, 0}, {MIN, 0},
            {0, MAX}, {0, MIN}};
        for (int[] one : others) {
            Check.due("outcome of others", -1, new FarStore().outcome(one[0], one[1]));
            Check.dueUnchanged("outcome(" + one[0] + ", " + one[1] + ")", -1, Check::busy, x -> x.outcome(one[0], one[1]));
        }
    }

    private static void outcomeUntold() {
        Check.sentence("others; -2 as walk(). ## Promise 12");
        FarStore x = Large.justUntold();
        Check.due("outcome(0, 0)", -2, x.outcome(0, 0));
        Check.due("outcome(255, 15)", -2, x.outcome(255, 15));
        Check.due("outcome(256, 0): others", -1, x.outcome(256, 0));
        Check.due("outcome(0, 16): others", -1, x.outcome(0, 16));
        x.falls(false);
        Check.due("outcome(0, 0) without falls", 20, x.outcome(0, 0));
    }

    private static void stepsOfRow() {
        Check.sentence("0, 1 a host's STATEMENT, 2, 3, 4 the WISH at place 0, 1, 2 of host 0's QUEUE, 5, 6, 7 of host 1's");
        FarStore x = Check.pair("put 2 0;".repeat(7), "put 0 0;".repeat(7));
        // Of 14 statements and 14 wishes: no row is longer, as no fall lies on a shortest one.
        Check.dueOutcome(x, 0, 0, "0001112020202022251515151555");
        Check.due("step(27)", 5, x.step(27));
        Check.due("step(28)", -1, x.step(28));
        x.falls(true);
        Check.dueOutcome(x, 0, 0, "0001112020202022251515151555");
    }

    private static void wishesByPlaces() {
        Check.sentence("2, 3, 4 the WISH at place 0, 1, 2 of host 0's QUEUE, 5, 6, 7 of host 1's");
        for (Side side : Side.BOTH) {
            String sees = "wait;if 0 1 1;set x 1;";
            FarStore first = side.alone("put X 1;get X 0;" + sees);
            Check.dueOutcome(first, 0, 1 << side.own, side.row("ssaass"));
            FarStore second = side.alone("get X 0;put X 1;" + sees);
            Check.dueOutcome(second, 0, 1 << side.own, side.row("ssbass"));
            FarStore third = side.alone("get X 0;get Y 1;put X 1;" + sees);
            Check.dueOutcome(third, 0, 1 << side.own, side.row("ssscaass"));
        }
    }

    private static void latestThatToldANumber() {
        Check.sentence("STEP i of the ROW to what the latest both() or outcome() that told a number found");
        FarStore x = Check.pair("put 2 1;", "");
        Check.dueRow("no call", "", x);
        Check.dueOutcome(x, 16, 4, "02");
        Check.dueBoth(x, 1, 0, "0");
        Check.dueOutcome(x, 16, 4, "02");
        Check.due("outcome(0, 4)", -1, x.outcome(0, 4));
        Check.due("outcome(256, 4)", -1, x.outcome(256, 4));
        Check.due("both(1, 1)", -1, x.both(1, 1));
        x.walk();
        x.ends(3);
        x.missing(false, 1, 0);
        x.missing(true, 16, 4);
        Check.dueRow("calls that told no number, and others", "02", x);
        Check.tell(x, 0, "");
        x.word(2, 3, 0);
        x.falls(true);
        Check.due("walk()", 3, x.walk());
        Check.dueRow("what was told since", "02", x);
        Check.dueBoth(x, 0, 0, "");
        Check.due("step(0) of a row without steps", -1, x.step(0));
        FarStore untold = Large.justUntold();
        untold.falls(false);
        Check.dueBoth(untold, 2, 1, "001");
        untold.falls(true);
        Check.due("both(0, 0)", -2, untold.both(0, 0));
        Check.due("outcome(0, 0)", -2, untold.outcome(0, 0));
        Check.dueRow("walks that aren't told", "001", untold);
    }

    private static void firstOfLikeOnes() {
        Check.sentence("(of like ones the STATE whose ROW is the first)");
        FarStore x = Check.pair("set 0 1;", "put 0 2;");
        Check.dueOutcome(x, 0, 0, "015");
        Check.dueOutcome(x, 2, 1, "015");
        Check.dueOutcome(x, 1, 1, "150");
        FarStore put = Check.pair("put 2 1;", "set 2 2;");
        Check.dueOutcome(put, 0, 0, "012");
        Check.dueOutcome(put, 1 << 4, 4, "012");
        Check.dueOutcome(put, 2 << 4, 4, "021");
        FarStore both = Check.pair("load 0 0;wait;", "put 0 1;wait;");
        Check.dueBoth(both, 2, 2, "00151");
        FarStore set = Check.pair("set 0 1;", "get 0 0;get 0 0;put 0 2;wait;if 0 2 1;set 3 1;");
        Check.dueOutcome(set, 64 + 2, 9, "0111555111");
        Check.dueOutcome(set, 2, 9, "011156511");
        Check.dueOutcome(set, 1, 1, "111565011");
    }

    private static void noSuchStep() {
        Check.sentence("NONE if there is none such.");
        FarStore none = new FarStore();
        for (int i : new int[] {0, 1, -1, MIN, MAX}) {
            Check.due("step(" + i + ") without a row", -1, none.step(i));
        }
        // The row has 2 steps.
        for (int i : new int[] {-1, 2, 3, 27, 28, 31, 32, 33, MIN, MAX}) {
            Check.dueUnchanged("step(" + i + ")", -1, Check::busy, x -> x.step(i));
        }
        Check.dueUnchanged("step(0)", 0, Check::busy, x -> x.step(0));
        Check.dueUnchanged("step(1)", 1, Check::busy, x -> x.step(1));
        FarStore shorter = Check.pair("set 0 1;set 0 2;set 0 3;", "");
        Check.dueBoth(shorter, 3, 0, "000");
        Check.dueBoth(shorter, 1, 0, "0");
        Check.due("step(1) of the longer row ahead of it", -1, shorter.step(1));
    }
}
