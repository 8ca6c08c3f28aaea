/** Promise 13: missing. */
public final class MissingTest {
    private static final int MIN = Integer.MIN_VALUE;
    private static final int MAX = Integer.MAX_VALUE;
    private static final String READER = "get X 0;put Y 1;wait;if 0 0 1;set x 1;";
    private static final String ANSWERER = "load y 0;if 0 0 1;set x 1;";

    public static void main(String[] args) {
        for (Side side : Side.BOTH) {
            leastNumber(side);
            aheadOfEachStatement(side);
            noneAheadOfTheEnd(side);
            barsAll(side);
            doneWheneverNext(side);
            leftOut(side);
            leftOutAsFarAsThereAreAny(side);
            leftOutFromTheFirst(side);
            namedAsWithout(side);
            otherHostsNames(side);
            goodEnds(side);
            fewerThanSeven(side);
        }
        leastOfBothHosts();
        noneDoes();
        others();
        nothingToBar();
        untold();
        notNeeded();
        fencesJustToldAndUntold();
        nothingIsChanged();
        Check.finish();
    }

    private static int missing(Side side, FarStore x, int place, int others) {
        return side.host == 0 ? x.missing(false, place, others) : x.missing(false, others, place);
    }

    /** The fence ahead of the host's statement; NONE if at is. */
    private static void dueFence(Side side, int at, FarStore x, int place, int others) {
        Check.due("missing(false) of host " + side.host + " at " + place + ", the other at " + others,
            at == -1 ? -1 : 8 * side.host + at, missing(side, x, place, others));
    }

    /** Its gets from X break its queue, so that a fence behind one is never passed. */
    private static FarStore withoutGet(Side side, String program, String others) {
        FarStore x = side.beside(program, others);
        x.word(side.far, 0, 6);
        return x;
    }

    private static void leastNumber(Side side) {
        Check.sentence("The least number 8 * host + STATEMENT ahead of which a fence more");
        FarStore x = withoutGet(side, "get X 0;set x 1;set x 2;set x 3;", "");
        dueFence(side, -1, x, 0, 0);
        dueFence(side, 1, x, 1, 0);
        dueFence(side, 1, x, 2, 0);
        dueFence(side, 1, x, 3, 0);
        dueFence(side, 1, x, 4, 0);
    }

    private static void leastOfBothHosts() {
        Check.sentence("The least number 8 * host + STATEMENT ahead of which a fence more");
        FarStore x = Check.pair("set 0 1;get 2 0;set 0 1;", "get 0 0;set 2 1;");
        x.word(2, 0, 6);
        x.word(0, 0, 6);
        Check.due("missing(false, 3, 2)", 2, x.missing(false, 3, 2));
        Check.due("missing(false, 2, 2)", 2, x.missing(false, 2, 2));
        Check.due("missing(false, 1, 2)", 9, x.missing(false, 1, 2));
        Check.due("missing(false, 3, 0)", 2, x.missing(false, 3, 0));
        Check.due("missing(false, 1, 0)", -1, x.missing(false, 1, 0));
    }

    private static void aheadOfEachStatement(Side side) {
        Check.sentence("8 * host + STATEMENT ahead of which a fence more");
        for (int at = 1; at < 6; at++) {
            FarStore x = withoutGet(side, "set x 1;".repeat(at - 1) + "get X 0;" + "set x 1;".repeat(6 - at), "");
            dueFence(side, at, x, 6, 0);
        }
    }

    private static void noneAheadOfTheEnd(Side side) {
        Check.sentence("STATEMENT ahead of which a fence more");
        for (int size = 1; size < 7; size++) {
            FarStore x = withoutGet(side, "set x 1;".repeat(size - 1) + "get X 0;", "");
            dueFence(side, -1, x, size, 0);
        }
    }

    private static void barsAll(Side side) {
        Check.sentence("bars all STATES of both(a, b)");
        // The end comes with the get, or, once the other host's put has been done, without it.
        FarStore two = withoutGet(side, "load x 1;if 1 1 1;get X 0;set y 1;", "put X 1;");
        dueFence(side, -1, two, 4, 1);
        // With the other host ahead of its put, the get can't be gone round.
        dueFence(side, 3, two, 4, 0);
    }

    /** Two ways to statement 5, both with a get in the queue: one by an if that leaves out the get at 4. */
    private static FarStore twoWays(Side side, int leftOut) {
        return withoutGet(side, "load x 0;if 0 0 2;get X 1;if 1 0 " + leftOut + ";get X 1;set y 1;", "put X 1;");
    }

    private static void doneWheneverNext(Side side) {
        Check.sentence("(done whenever that STATEMENT would be next;");
        dueFence(side, 5, twoWays(side, 1), 6, 1);
        dueFence(side, 5, twoWays(side, 1), 5, 1);
        dueFence(side, -1, twoWays(side, 1), 4, 1);
    }

    private static void leftOut(Side side) {
        Check.sentence("an if leaves it out with what it left out)");
        // The fence ahead of 5 bars the one way only: the if leaves it out with 4 and 5.
        dueFence(side, -1, twoWays(side, 2), 6, 1);
        FarStore further = side.alone("if 0 0 1;wait;wait;set x 1;");
        dueFence(side, -1, further, 2, 0);
        dueFence(side, -1, further, 3, 0);
        dueFence(side, -1, further, 4, 0);
        FarStore later = withoutGet(side, "if 0 0 1;wait;set x 1;get X 0;set x 2;", "");
        dueFence(side, -1, later, 2, 0);
        dueFence(side, -1, later, 3, 0);
        dueFence(side, 4, later, 4, 0);
    }

    private static void leftOutAsFarAsThereAreAny(Side side) {
        Check.sentence("an if leaves it out with what it left out)");
        for (int n = 2; n <= 7; n++) {
            dueFence(side, -1, twoWays(side, n), 6, 1);
            FarStore x = side.alone("if 0 0 " + n + ";set x 1;wait;");
            dueFence(side, -1, x, 3, 0);
        }
    }

    private static void leftOutFromTheFirst(Side side) {
        Check.sentence("an if leaves it out with what it left out)");
        FarStore x = withoutGet(side, "if 0 0 1;get X 0;wait;", "");
        dueFence(side, -1, x, 2, 0);
        dueFence(side, -1, x, 3, 0);
        FarStore six = withoutGet(side, "if 0 0 4;wait;wait;wait;get X 0;wait;", "");
        dueFence(side, -1, six, 5, 0);
        dueFence(side, -1, six, 6, 0);
    }

    private static void namedAsWithout(Side side) {
        Check.sentence("STATEMENTS named as without it");
        FarStore x = withoutGet(side, "get X 0;set x 1;set x 2;", "");
        // Ahead of statement 1 is behind the fence: the get breaks the queue ahead of that.
        dueFence(side, 1, x, 1, 0);
        dueFence(side, 1, x, 2, 0);
        dueFence(side, 1, x, 3, 0);
        FarStore passed = side.alone("get X 0;set x 1;set x 2;");
        for (int place = 0; place <= 3; place++) {
            dueFence(side, -1, passed, place, 0);
        }
        // No host is ever ahead of 1: were 0 named as 1 for a fence behind it, that would bar it.
        FarStore jumps = side.alone("if 0 0 1;wait;set x 1;");
        dueFence(side, -1, jumps, 0, 0);
        dueFence(side, -1, jumps, 2, 0);
        dueFence(side, -1, jumps, 3, 0);
    }

    private static void otherHostsNames(Side side) {
        Check.sentence("STATEMENTS named as without it");
        FarStore x = side.beside("set x 1;", "if 0 0 1;wait;set x 1;");
        for (int place = 0; place <= 1; place++) {
            dueFence(side, -1, x, place, 0);
            dueFence(side, -1, x, place, 2);
            dueFence(side, -1, x, place, 3);
        }
    }

    private static void goodEnds(Side side) {
        Check.sentence("(if ends: GOOD ENDS of outcome(a, b))");
        FarStore x = side.beside(READER, ANSWERER);
        int sawPut = 1 << 2 * side.own;
        // The get sees what the other host did because of the put behind it.
        Check.due("outcome(sawPut)", true, x.outcome(sawPut, 1 << side.own) > 0);
        Check.due("missing(true) of it", 8 * side.host + 1, x.missing(true, sawPut, 1 << side.own));
        Check.due("missing(true) of other ends", -1, x.missing(true, 0, 1 << side.own));
        Check.due("missing(true) of all ends", -1, x.missing(true, 0, 0));
        dueFence(side, 1, x, 4, 3);
        dueFence(side, -1, x, 5, 3);
        FarStore fenced = side.beside(READER.replace("put", "fence;put"), ANSWERER);
        Check.due("outcome(sawPut) with the fence", -1, fenced.outcome(sawPut, 1 << side.own));
        Check.due("missing(true) with the fence", -1, fenced.missing(true, sawPut, 1 << side.own));
        FarStore broken = withoutGet(side, "get X 0;put Y 1;", "");
        Check.due("an end that isn't good is none to bar", -1, broken.missing(true, 0, 0));
    }

    private static void fewerThanSeven(Side side) {
        Check.sentence("of programs of fewer than 7.");
        for (int more = 0; more <= 2; more++) {
            FarStore x = side.beside("wait;".repeat(more) + READER, ANSWERER);
            int due = more == 2 ? -1 : 8 * side.host + 1 + more;
            Check.due("missing(true) with " + (5 + more), due, x.missing(true, 1 << 2 * side.own, 1 << side.own));
            dueFence(side, more == 2 ? -1 : 1 + more, x, 4 + more, 3);
        }
        FarStore other = side.beside(READER, ANSWERER + "wait;wait;wait;wait;");
        Check.due("missing(true), the other host's of 7", 8 * side.host + 1, other.missing(true, 1 << 2 * side.own, 1 << side.own));
        FarStore both = side.beside("wait;wait;" + READER, ANSWERER + "wait;wait;wait;wait;");
        Check.due("missing(true), both of 7", -1, both.missing(true, 1 << 2 * side.own, 1 << side.own));
    }

    private static void noneDoes() {
        Check.sentence("NONE: none does, others, or there is nothing to bar");
        Check.due("no statements", -1, new FarStore().missing(true, 0, 0));
        Check.due("no statements", -1, new FarStore().missing(false, 0, 0));
        FarStore x = Check.pair("set 0 1;", "set 2 1;");
        Check.due("missing(false, 0, 0)", -1, x.missing(false, 0, 0));
        Check.due("missing(false, 1, 1)", -1, x.missing(false, 1, 1));
        Check.due("missing(true, 17, 5)", -1, x.missing(true, 17, 5));
    }

    private static void others() {
        Check.sentence("NONE: none does, others, or there is nothing to bar");
        int[][] places = {{-1, 0}, {0, -1}, {3, 0}, {0, 4}, {8, 0}, {0, 8}, {MAX, 0}, {0, MAX}, {MIN, 0}, {0, MIN}};
        for (int[] one : places) {
            Check.dueUnchanged("missing(false, " + one[0] + ", " + one[1] + ")", -1, Check::busy,
                x -> x.missing(false, one[0], one[1]));
        }
        int[][] outcomes = {{-1, 0}, {256, 0}, {0, -1}, {0, 16}, {MAX, 0}, {0, MAX}, {MIN, 0}, {0, MIN}};
        for (int[] one : outcomes) {
            Check.dueUnchanged("missing(true, " + one[0] + ", " + one[1] + ")", -1, Check::busy,
                x -> x.missing(true, one[0], one[1]));
        }
        FarStore x = Check.pair("get 2 0;set 0 3;set 1 3;", "");
        x.word(2, 3, 6);
        Check.due("missing(false, 3, 0)", 1, x.missing(false, 3, 0));
        Check.due("missing(false, 4, 0)", -1, x.missing(false, 4, 0));
        Check.due("missing(false, 255, 15)", -1, x.missing(false, 255, 15));
    }

    private static void nothingToBar() {
        Check.sentence("or there is nothing to bar");
        FarStore x = Check.pair("if 0 0 1;get 2 0;set 0 1;", "");
        x.word(2, 0, 6);
        // No host is ever ahead of 1, with any fence or none.
        Check.due("missing(false, 1, 0)", -1, x.missing(false, 1, 0));
        Check.due("missing(true, 2, 1)", -1, x.missing(true, 2, 1));
        Check.due("nothing to bar: no walk with a fence is needed", -1, Large.untoldWithFence().missing(true, 1, 1));
    }

    private static void untold() {
        Check.sentence("-2: some walk that is needed isn't told.");
        FarStore plain = Large.justUntold();
        Check.due("missing(true, 0, 0) of an untold walk", -2, plain.missing(true, 0, 0));
        Check.due("missing(false, 0, 0) of an untold walk", -2, plain.missing(false, 0, 0));
        Check.due("missing(true, 0, 16): others", -1, plain.missing(true, 0, 16));
        Check.due("missing(false, 8, 0): others", -1, plain.missing(false, 8, 0));
        FarStore fenced = Large.untoldWithFence();
        Check.due("walk()", 12000, fenced.walk());
        Check.due("missing(true, 0, 0) of an untold walk with a fence", -2, fenced.missing(true, 0, 0));
        fenced.falls(false);
        Check.due("missing(true, 0, 0) without falls", -1, fenced.missing(true, 0, 0));
        // The fence ahead of 3 would bar it, but with the one ahead of 2 there are more than 12,000 states.
        Check.due("missing(false, 6, 6) behind an untold one", -2, Large.untoldAheadOfBarring().missing(false, 6, 6));
        FarStore first = Large.untoldAheadOfTheFirst();
        Check.due("missing(false, 6, 7) behind an untold one ahead of 0", -2, first.missing(false, 6, 7));
        first.falls(false);
        Check.due("missing(false, 6, 7) without falls", 1, first.missing(false, 6, 7));
    }

    private static void notNeeded() {
        Check.sentence("-2: some walk that is needed isn't told.");
        // With the fence ahead of host 1's statement 5 there are more than 12,000 states, but 3 is less than 13.
        FarStore x = Large.untoldBehindBarring();
        Check.due("missing(false, 6, 6) ahead of an untold one", 3, x.missing(false, 6, 6));
        Check.due("missing(false, 0, 0), for which all are needed", -2, x.missing(false, 0, 0));
    }

    private static void fencesJustToldAndUntold() {
        Check.sentence("It isn't told if there are more than 12,000 STATES.");
        Check.due("missing(false, 0, 0) with 12,000 at most", -1, Large.fencesJustTold().missing(false, 0, 0));
        Check.due("missing(false, 0, 0) with 12,001 at most", -2, Large.fencesJustUntold().missing(false, 0, 0));
    }

    private static void nothingIsChanged() {
        Check.sentence("Nothing is changed. ## Promise 14");
        Check.dueUnchanged("missing(false, 2, 3)", -1, Check::busy, x -> x.missing(false, 2, 3));
        Check.dueUnchanged("missing(true, 0, 0)", -1, Check::busy, x -> x.missing(true, 0, 0));
        for (Side side : Side.BOTH) {
            Check.dueUnchanged("missing(false) of a fence that bars", 8 * side.host + 1,
                () -> withoutGet(side, "get X 0;if 0 0 1;set x 1;set x 2;", "put X 1;"), x -> missing(side, x, 4, 1));
            Check.dueUnchanged("missing(true) of a fence that bars", 8 * side.host + 1,
                () -> side.beside(READER, ANSWERER), x -> x.missing(true, 1 << 2 * side.own, 1 << side.own));
        }
        Check.dueUnchanged("missing(true, 0, 0) of an untold walk", -2, Large::justUntold, x -> x.missing(true, 0, 0));
        FarStore fenced = Large.untoldWithFence();
        Check.due("missing(true, 0, 0)", -2, fenced.missing(true, 0, 0));
        Check.due("walk() behind an untold walk with a fence", 12000, fenced.walk());
        Check.due("about(0)", 6, fenced.about(0));
    }
}
