/** Promises 8 and 9: walk and ends, with states counted by hand. */
public final class WalkTest {
    public static void main(String[] args) {
        small();
        overtaking();
        rights();
        falls();
        brokenAndFallen();
        queueIdentity();
        limit();
        followsChanges();
        Check.finish();
    }

    private static void dueWalk(FarStore x, String name, int states, int... ends) {
        Check.due(name + ": walk()", states, x.walk());
        for (int what = 0; what < 4; what++) {
            Check.due(name + ": ends(" + what + ")", ends[what], x.ends(what));
        }
        int[] others = {-1, 4, Integer.MIN_VALUE, Integer.MAX_VALUE};
        for (int what : others) {
            Check.due(name + ": ends of others", -1, x.ends(what));
        }
    }

    private static void small() {
        dueWalk(new FarStore(), "empty", 1, 1, 1, 0, 0);
        dueWalk(Check.pair("put 2 1;", ""), "a put", 3, 1, 1, 0, 2);
        dueWalk(Check.pair("", "get 0 1;"), "a get", 3, 1, 1, 0, 2);
        dueWalk(Check.pair("set 0 1;load 0 1;", ""), "own words", 3, 1, 1, 0, 2);
        dueWalk(Check.pair("set 0 1;", "set 3 1;"), "both hosts", 4, 1, 1, 0, 2);
        dueWalk(Check.pair("fence;wait;", ""), "nothing to wait for", 3, 1, 1, 0, 2);
        dueWalk(Check.pair("if 0 0 7;wait;", ""), "an if that leaves out more than there is", 2, 1, 1, 0, 1);
        dueWalk(Check.pair("if 0 1 7;wait;", ""), "an if that leaves out nothing", 3, 1, 1, 0, 2);
    }

    private static void overtaking() {
        dueWalk(Check.pair("get 2 0;put 3 1;", ""), "a put passes a get", 7, 1, 1, 0, 4);
        dueWalk(Check.pair("put 3 1;get 2 0;", ""), "a get passes no put", 6, 1, 1, 0, 4);
        dueWalk(Check.pair("put 2 1;put 3 1;", ""), "a put passes no put", 6, 1, 1, 0, 4);
        dueWalk(Check.pair("get 2 1;get 3 1;", ""), "a get passes no get", 6, 1, 1, 0, 4);
        dueWalk(Check.pair("get 2 0;fence;put 3 1;", ""), "a fence waits for a get", 6, 1, 1, 0, 5);
        dueWalk(Check.pair("put 2 1;fence;put 3 1;", ""), "a fence waits for no put", 8, 1, 1, 0, 5);
        dueWalk(Check.pair("put 2 1;wait;put 3 1;", ""), "a wait waits for a put", 6, 1, 1, 0, 5);
    }

    private static void rights() {
        String[] wishes = {"put 2 1;", "get 2 1;", "swap 2 0 1 1;", "add 2 1 1;"};
        int[] needed = {2, 1, 4, 4};
        for (int i = 0; i < wishes.length; i++) {
            for (int rights = 0; rights < 8; rights++) {
                FarStore x = Check.pair(wishes[i], "");
                x.word(2, 0, rights);
                boolean has = (rights & needed[i]) != 0;
                dueWalk(x, wishes[i] + " with rights " + rights, 3, 1, has ? 1 : 0, has ? 0 : 1, 2);
                Check.due("the word is touched with the right alone", has && i != 1 ? 2 : -1, x.outcome(16, 4));
            }
        }
        FarStore own = Check.pair("set 0 1;load 0 1;", "");
        own.word(0, 0, 0);
        dueWalk(own, "own words need no rights", 3, 1, 1, 0, 2);
        FarStore queue = Check.pair("put 2 1;put 3 1;set 0 1;", "");
        queue.word(2, 0, 5);
        // Three places with the first wish in the queue, two of them with the second; broken at each.
        dueWalk(queue, "a broken queue loses all wishes, its host stops", 7, 3, 0, 3, 4);
    }

    private static void falls() {
        FarStore x = new FarStore();
        x.falls(true);
        dueWalk(x, "falls alone", 3, 3, 1, 0, 1);
        x = Check.pair("put 2 1;", "");
        x.falls(true);
        dueWalk(x, "a put and falls", 10, 5, 1, 1, 3);
        x = Check.pair("set 0 1;", "");
        x.falls(true);
        // Host 0 stops where it fell; it goes on if host 1 fell.
        dueWalk(x, "a set and falls", 6, 4, 1, 0, 2);
    }

    private static void brokenAndFallen() {
        FarStore x = Check.pair("put 2 1;", "");
        x.word(2, 0, 0);
        x.falls(true);
        // Beginning, wish, broken: each with nobody, host 0 or host 1 fallen.
        dueWalk(x, "a broken host may fall", 9, 4, 0, 3, 3);
    }

    private static void queueIdentity() {
        FarStore x = Check.pair("get 2 0;if 0 0 1;put 3 1;if 0 1 1;put 3 1;", "");
        x.word(2, 1, 7);
        // At the program's end the one wish left may be of either put.
        dueWalk(x, "like wishes of two statements are two", 16, 2, 2, 0, 6);
        dueWalk(Check.pair("put 2 1;put 2 1;", "put 0 1;"), "both hosts' queues", 18, 1, 1, 0, 6);
        dueWalk(Check.pair("put 2 0;put 2 0;put 2 0;put 2 0;", ""), "at most 3 wishes", 14, 1, 1, 0, 8);
    }

    private static void limit() {
        FarStore x = Check.pair("set 1 3;set 1 2;add 3 2 0;put 3 0;get 2 0;swap 2 0 2 1;add 2 2 0;",
            "swap 1 0 2 0;add 1 1 1;swap 0 0 1 0;add 0 1 0;get 0 1;set 3 2;swap 1 0 1 0;");
        x.falls(true);
        Check.due("walk() of 12,000", 12000, x.walk());
        x = Check.pair("load 1 0;add 3 1 0;get 3 0;load 1 1;load 0 1;set 0 0;get 3 0;",
            "get 0 0;add 0 3 1;set 3 3;put 1 2;put 0 2;load 3 0;");
        Check.due("both(1, 0)", 1, x.both(1, 0));
        x.falls(true);
        dueWalk(x, "12,001 states", -2, -2, -2, -2, -2);
        Check.due("both(0, 0) untold", -2, x.both(0, 0));
        Check.due("both(8, 0): there is none such", -1, x.both(8, 0));
        Check.due("outcome(0, 0) untold", -2, x.outcome(0, 0));
        Check.due("outcome(256, 0): others", -1, x.outcome(256, 0));
        Check.due("missing(true, 0, 0) untold", -2, x.missing(true, 0, 0));
        Check.due("missing(true, 0, 16): others", -1, x.missing(true, 0, 16));
        Check.dueRow("calls that told no number", "0", x);
        x.falls(false);
        Check.due("walk() without falls", 3107, x.walk());
    }

    private static void followsChanges() {
        FarStore x = Check.pair("put 2 1;", "");
        Check.due("walk()", 3, x.walk());
        Check.due("a faulty text changes nothing", -1, Check.tell(x, 0, "put 2 1;put 2"));
        Check.due("walk()", 3, x.walk());
        Check.tell(x, 1, "put 0 1;");
        Check.due("walk()", 9, x.walk());
        x.word(0, 1, 7);
        Check.due("outcome(16, 4)", 4, x.outcome(17, 15));
        Check.tell(x, 0, "");
        Check.due("walk()", 3, x.walk());
        Check.due("missing(false, 0, 1)", -1, x.missing(false, 0, 1));
        Check.due("walk() behind missing()", 3, x.walk());
        Check.due("ends(3) behind missing()", 2, x.ends(3));
    }
}
