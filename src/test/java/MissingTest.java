/** Promise 13: missing. */
public final class MissingTest {
    private static final String READER = "get 2 0;put 3 1;wait;if 0 0 1;set 0 1;";
    private static final String ANSWERER = "load 3 0;if 0 0 1;set 2 1;";

    public static void main(String[] args) {
        overtaken();
        otherHost();
        brokenAtTheFence();
        leftOut();
        ofSeven();
        nothingToBar();
        untold();
        Check.finish();
    }

    private static void overtaken() {
        FarStore x = Check.pair(READER, ANSWERER);
        // The get sees what host 1 did because of the put behind it.
        Check.due("outcome(1, 1)", true, x.outcome(1, 1) > 0);
        String row = Check.row(x);
        Check.due("missing(true, 1, 1)", 1, x.missing(true, 1, 1));
        Check.due("missing(false, 4, 3)", 1, x.missing(false, 4, 3));
        Check.due("missing(true, 0, 1)", -1, x.missing(true, 0, 1));
        Check.due("missing(false, 5, 3)", -1, x.missing(false, 5, 3));
        Check.dueRow("missing()", row, x);
        Check.due("about(0)", 5, x.about(0));
        Check.due("statement(0, 1, 0)", 0, x.statement(0, 1, 0));
        Check.due("outcome(1, 1)", row.length(), x.outcome(1, 1));
        FarStore fenced = Check.pair("get 2 0;fence;put 3 1;wait;if 0 0 1;set 0 1;", ANSWERER);
        Check.due("outcome(1, 1) with the fence", -1, fenced.outcome(1, 1));
        Check.due("missing(true, 1, 1) with the fence", -1, fenced.missing(true, 1, 1));
    }

    private static void otherHost() {
        FarStore x = Check.pair("load 1 0;if 0 0 1;set 0 1;", "wait;get 0 0;put 1 1;wait;if 0 0 1;set 2 1;");
        Check.due("missing(true, 16, 4)", 10, x.missing(true, 16, 4));
        Check.due("missing(false, 3, 5)", 10, x.missing(false, 3, 5));
    }

    private static void brokenAtTheFence() {
        FarStore x = Check.pair("get 2 0;set 0 1;", "");
        x.word(2, 0, 6);
        // The get breaks the queue ahead of the fence, so that the host never is ahead of the statement behind it.
        Check.due("missing(false, 1, 0)", 1, x.missing(false, 1, 0));
        Check.due("missing(false, 2, 0)", 1, x.missing(false, 2, 0));
        Check.due("missing(false, 0, 0)", -1, x.missing(false, 0, 0));
    }

    private static void leftOut() {
        FarStore x = Check.pair("get 2 0;if 0 0 2;wait;wait;set 0 1;", "");
        x.word(2, 0, 6);
        // A fence ahead of 2 or 3 would be left out; it is at the if, or where the if goes on, that one bars.
        Check.due("missing(false, 5, 0)", 1, x.missing(false, 5, 0));
        x = Check.pair("if 0 0 1;fence;get 2 0;if 1 0 1;wait;set 0 1;", "");
        x.word(2, 0, 6);
        Check.due("missing(false, 5, 0)", 3, x.missing(false, 5, 0));
        x = Check.pair("get 2 0;if 0 0 7;set 0 1;", "");
        x.word(2, 0, 6);
        Check.due("missing(false, 3, 0)", 1, x.missing(false, 3, 0));
    }

    private static void ofSeven() {
        FarStore x = Check.pair("wait;wait;" + READER, ANSWERER);
        Check.due("outcome(1, 1)", true, x.outcome(1, 1) > 0);
        Check.due("no fence comes to a program of 7", -1, x.missing(true, 1, 1));
        x = Check.pair("wait;" + READER, ANSWERER);
        Check.due("one comes to a program of 6", 2, x.missing(true, 1, 1));
        x = Check.pair("load 1 0;if 0 0 1;set 0 1;wait;wait;wait;wait;", "get 0 0;put 1 1;wait;if 0 0 1;set 2 1;");
        Check.due("host 0 has 7, host 1 has not", 9, x.missing(true, 16, 4));
    }

    private static void nothingToBar() {
        FarStore x = Check.pair(READER, ANSWERER);
        Check.due("no such outcome", -1, x.missing(true, 2, 1));
        int[][] places = {{-1, 0}, {0, -1}, {6, 0}, {0, 4}, {Integer.MAX_VALUE, 0}, {0, Integer.MIN_VALUE}};
        for (int[] place : places) {
            Check.due("missing of no such places", -1, x.missing(false, place[0], place[1]));
        }
        int[][] outcomes = {{-1, 0}, {256, 0}, {0, -1}, {0, 16}, {Integer.MAX_VALUE, 0}, {0, Integer.MIN_VALUE}};
        for (int[] outcome : outcomes) {
            Check.due("missing of other outcomes", -1, x.missing(true, outcome[0], outcome[1]));
        }
        Check.due("no statements", -1, new FarStore().missing(true, 0, 0));
    }

    private static void untold() {
        FarStore x = Check.pair("add 2 1 0;get 2 1;put 3 0;swap 3 0 1 0;add 3 2 1;put 3 1;",
            "get 1 1;load 3 0;set 2 2;get 0 1;get 1 0;add 0 3 1;put 1 3;");
        x.falls(true);
        Check.due("walk()", 12000, x.walk());
        Check.due("a walk with a fence isn't told", -2, x.missing(true, 0, 0));
        Check.due("nothing to bar: no such walk is needed", -1, x.missing(true, 1, 1));
        x.falls(false);
        Check.due("walks without falls are told", -1, x.missing(true, 0, 0));
    }
}
