/** Promises 10, 11 and 12: both, outcome and step. */
public final class RowTest {
    public static void main(String[] args) {
        both();
        outcome();
        order();
        keptRow();
        wrongInputs();
        Check.finish();
    }

    private static void dueBoth(FarStore x, int a, int b, String row) {
        Check.due("both(" + a + ", " + b + ")", row == null ? -1 : row.length(), x.both(a, b));
        if (row != null) {
            Check.dueRow("both(" + a + ", " + b + ")", row, x);
        }
    }

    private static void dueOutcome(FarStore x, int values, int set, String row) {
        Check.due("outcome(" + values + ", " + set + ")", row == null ? -1 : row.length(), x.outcome(values, set));
        if (row != null) {
            Check.dueRow("outcome(" + values + ", " + set + ")", row, x);
        }
    }

    private static void both() {
        FarStore x = Check.pair("put 2 1;put 2 1;put 2 1;put 2 1;", "get 0 0;fence;put 1 1;wait;");
        dueBoth(x, 0, 0, "");
        dueBoth(x, 3, 0, "000");
        dueBoth(x, 4, 0, "00020");
        dueBoth(x, 0, 1, "1");
        dueBoth(x, 0, 2, "151");
        dueBoth(x, 0, 4, "151151");
        dueBoth(x, 4, 4, "00012051151");
        x = Check.pair("put 2 1;get 2 0;fence;", "");
        dueBoth(x, 3, 0, "00220");
        x = Check.pair("if 0 0 2;wait;wait;set 0 1;", "if 1 3 1;if 0 0 7;wait;");
        dueBoth(x, 1, 0, null);
        dueBoth(x, 2, 0, null);
        dueBoth(x, 3, 0, "0");
        dueBoth(x, 4, 3, "0011");
        dueBoth(x, 4, 2, null);
    }

    private static void outcome() {
        FarStore x = Check.pair("swap 2 1 3 0;add 3 3 1;", "");
        x.word(2, 1, 7);
        x.word(3, 2, 7);
        dueOutcome(x, 3 << 4 | 1 << 6, 15, "0022");
        dueOutcome(x, 255, 4, "0022");
        dueOutcome(x, 255, 8, null);
        dueOutcome(x, 255, 0, "0022");
        x.word(2, 2, 7);
        dueOutcome(x, 2 << 4 | 1 << 6, 15, "0022");
        x = Check.pair("swap 2 1 3 0;if 0 1 1;set 0 2;", "");
        x.word(2, 1, 7);
        dueOutcome(x, 0, 1, "020");
        dueOutcome(x, 2, 1, "0002");
        x = Check.pair("add 2 1 0;wait;if 0 2 1;set 0 2;", "");
        x.word(2, 2, 7);
        dueOutcome(x, 3 << 4, 15, "0200");
        dueOutcome(x, 2, 1, null);
        x = Check.pair("load 0 1;if 1 3 1;set 1 1;", "");
        x.word(0, 3, 0);
        dueOutcome(x, 3, 15, "00");
        x = Check.pair("get 2 0;put 2 1;wait;if 0 1 1;set 0 3;", "");
        dueOutcome(x, 3, 1, "0022000");
        dueOutcome(x, 0, 1, "003200");
    }

    private static void order() {
        FarStore x = Check.pair("put 2 1;", "put 0 1;");
        dueOutcome(x, 17, 5, "0125");
        x = Check.pair("put 2 1;", "set 2 2;");
        dueOutcome(x, 1 << 4, 4, "012");
        dueOutcome(x, 2 << 4, 4, "021");
        x = Check.pair("", "get 0 0;get 0 1;put 0 1;wait;");
        dueBoth(x, 0, 4, "1115551");
        x = Check.pair("", "get 0 0;get 0 0;put 1 1;wait;if 0 1 1;set 3 1;");
        dueOutcome(x, 0, 0, "111555111");
        x = Check.pair("set 0 1;", "get 0 0;get 0 0;put 0 2;wait;if 0 2 1;set 3 1;");
        dueOutcome(x, 64 + 2, 9, "0111555111");
        dueOutcome(x, 2, 9, "011156511");
        dueOutcome(x, 1, 1, "111565011");
    }

    private static void keptRow() {
        FarStore x = Check.pair("put 2 1;", "");
        Check.due("step(0) ahead of any row", -1, x.step(0));
        dueOutcome(x, 16, 4, "02");
        dueOutcome(x, 0, 4, null);
        Check.dueRow("an outcome() that told none", "02", x);
        dueBoth(x, 1, 1, null);
        Check.dueRow("a both() that told none", "02", x);
        x.missing(false, 1, 0);
        Check.dueRow("missing()", "02", x);
        Check.tell(x, 0, "");
        x.word(2, 3, 0);
        x.falls(true);
        Check.due("walk()", 3, x.walk());
        Check.dueRow("changes", "02", x);
        dueBoth(x, 0, 0, "");
        Check.due("step(-1)", -1, x.step(-1));
        Check.due("step(MAX)", -1, x.step(Integer.MAX_VALUE));
        Check.due("step(MIN)", -1, x.step(Integer.MIN_VALUE));
        Check.due("step(32)", -1, x.step(32));
    }

    private static void wrongInputs() {
        FarStore x = Check.pair("wait;", "wait;wait;");
        Check.due("both(1, 2)", 3, x.both(1, 2));
        int[][] places = {{-1, 0}, {0, -1}, {2, 0}, {0, 3}, {8, 0}, {Integer.MAX_VALUE, 0}, {0, Integer.MIN_VALUE}};
        for (int[] place : places) {
            Check.due("both of none such", -1, x.both(place[0], place[1]));
        }
        int[][] outcomes = {{-1, 0}, {256, 0}, {0, -1}, {0, 16}, {Integer.MAX_VALUE, 0}, {0, Integer.MIN_VALUE}};
        for (int[] outcome : outcomes) {
            Check.due("outcome of others", -1, x.outcome(outcome[0], outcome[1]));
        }
        Check.dueRow("wrong inputs", "011", x);
    }
}
