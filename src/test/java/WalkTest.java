/** Promises 8 and 9, and what the terms of part II say of states, the walk and ends. */
public final class WalkTest {
    private static final int[] OTHERS = {-1, 4, 5, Integer.MIN_VALUE, Integer.MAX_VALUE};

    public static void main(String[] args) {
        for (Side side : Side.BOTH) {
            words(side);
            registers(side);
            places(side);
            queues(side);
            broken(side);
            fell(side);
            fewestSteps(side);
            endButForFalls(side);
            goodEnds(side);
            brokenEnds(side);
        }
        oneStepEach();
        endsBySort();
        bothBroken();
        atMost12000();
        states();
        mostSteps();
        endsOfOthers();
        endsUntold();
        followsChanges();
        Check.finish();
    }

    private static void words(Side side) {
        Check.sentence("A STATE: WORDS, REGISTERS, where both are, QUEUES");
        // The word is of the one that came last.
        FarStore x = side.beside("set x 1;", "put X 2;");
        Check.dueWalk(x, "states that differ in a word", 7, 2, 2, 0, 3);
        FarStore second = side.beside("set y 1;", "put Y 2;");
        Check.dueWalk(second, "states that differ in a word", 7, 2, 2, 0, 3);
    }

    private static void registers(Side side) {
        Check.sentence("A STATE: WORDS, REGISTERS, where both are, QUEUES");
        for (int r = 0; r < 2; r++) {
            for (int v = 1; v < 4; v++) {
                FarStore x = side.beside("load x " + r + ";", "put X " + v + ";");
                Check.dueWalk(x, "states that differ in a register", 7, 2, 2, 0, 3);
            }
        }
    }

    private static void places(Side side) {
        Check.sentence("A STATE: WORDS, REGISTERS, where both are, QUEUES");
        Check.dueWalk(side.beside("set x 0;", ""), "a set of one", 2, 1, 1, 0, 1);
        Check.dueWalk(side.beside("set x 0;", "set x 0;"), "a set of each", 4, 1, 1, 0, 2);
        Check.dueWalk(side.beside("wait;".repeat(7), "wait;".repeat(7)), "seven waits of each", 64, 1, 1, 0, 14);
    }

    private static void queues(Side side) {
        Check.sentence("QUEUES (of which STATEMENTS their WISHES are)");
        FarStore x = side.alone("get X 0;if 0 0 1;put Y 1;if 0 1 1;put Y 1;");
        x.word(side.far, 1, 7);
        // At the program's end the one wish left may be of either put, though they are alike.
        Check.dueWalk(x, "like wishes of two statements are two", 16, 2, 2, 0, 6);
        Check.dueWalk(side.beside("put X 1;put X 1;", "put X 1;"), "queues of both", 18, 1, 1, 0, 6);
    }

    private static void broken(Side side) {
        Check.sentence("what is BROKEN, who FELL.");
        FarStore x = side.alone("put X 0;");
        x.falls(true);
        // The wish was done and then the other host fell, or it fell and then the wish broke the queue: all else is alike.
        Check.dueWalk(x, "states that differ in what is broken", 10, 5, 1, 1, 3);
    }

    private static void fell(Side side) {
        Check.sentence("what is BROKEN, who FELL.");
        FarStore x = side.alone("");
        x.falls(true);
        Check.dueWalk(x, "states that differ in who fell", 3, 3, 1, 0, 1);
    }

    private static void fewestSteps(Side side) {
        Check.sentence("THE WALK: all STATES that can come, by the fewest STEPS");
        // The end comes by 4 steps, or by 5 if the first load sees the put: it is one state, of 4 steps.
        FarStore x = side.beside("load x 0;if 0 0 1;load y 0;", "put X 1;");
        Check.due("ends(0)", 1, x.ends(0));
        Check.due("ends(3)", 4, x.ends(3));
        side.dueBoth(x, 3, 1, side.host == 0 ? "sso" : "oss");
        Check.due("outcome(0, 0)", 4, x.outcome(0, 0));
    }

    private static void endButForFalls(Side side) {
        Check.sentence("AN END: a STATE behind which no STEP (but a FALL) can come");
        FarStore x = side.alone("");
        Check.due("ends(0)", 1, x.ends(0));
        x.falls(true);
        Check.due("ends(0) with falls", 3, x.ends(0));
        Check.due("ends(1) with falls", 1, x.ends(1));
        FarStore wish = side.alone("put X 1;");
        Check.due("a wish can still be done: ends(0)", 1, wish.ends(0));
        Check.due("both at the program's end, ahead of the end", 1, side.host == 0 ? wish.both(1, 0) : wish.both(0, 1));
        Check.due("the end", 2, wish.outcome(0, 0));
    }

    private static void goodEnds(Side side) {
        Check.sentence("GOOD if both hosts are at their programs' ends and nothing is BROKEN, nobody FELL.");
        FarStore broken = side.alone("put X 1;");
        broken.word(side.far, 0, 5);
        Check.dueWalk(broken, "broken at its program's end", 3, 1, 0, 1, 2);
        FarStore fallen = side.alone("set x 1;");
        fallen.falls(true);
        Check.dueWalk(fallen, "fallen at, or ahead of, its program's end", 6, 4, 1, 0, 2);
        FarStore passed = side.alone("get X 0;put Y 1;");
        passed.word(side.far, 0, 6);
        Check.dueOutcome(passed, 0, 0, null);
        FarStore two = side.beside("set x 1;", "put X 2;");
        Check.due("good ends with other words are two", 2, two.ends(1));
    }

    private static void brokenEnds(Side side) {
        Check.sentence("those in which something is BROKEN (2)");
        FarStore x = side.beside("put X 1;", "set x 2;");
        Check.dueWalk(x, "nothing broken", 7, 2, 2, 0, 3);
        x.word(side.far, 0, 5);
        Check.dueWalk(x, "broken", 6, 1, 0, 1, 3);
        x.word(side.far, 0, 7);
        Check.dueWalk(x, "nothing broken again", 7, 2, 2, 0, 3);
    }

    private static void oneStepEach() {
        Check.sentence("(a host's STATEMENT, a WISH that is DONE, a FALL: one each)");
        FarStore x = new FarStore();
        x.falls(true);
        Check.due("ends(3) of a fall", 1, x.ends(3));
        Check.due("program(1)", 1, Check.tell(x, 1, "if 0 0 7;"));
        Check.due("ends(3) of an if and a fall", 2, x.ends(3));
        Check.due("program(1)", 1, Check.tell(x, 1, "swap 0 0 1 0;"));
        Check.due("ends(3) of a swap, its wish and a fall", 3, x.ends(3));
        x.falls(false);
        Check.due("ends(3) of a swap and its wish", 2, x.ends(3));
    }

    private static void endsBySort() {
        Check.sentence("ENDS (what 0), GOOD ones (1), those in which something is BROKEN (2), the most STEPS of a STATE (3).");
        FarStore x = Check.pair("put 2 1;put 2 1;put 2 1;", "");
        x.falls(true);
        Check.due("ends(0)", 11, x.ends(0));
        Check.due("ends(1)", 1, x.ends(1));
        Check.due("ends(2)", 5, x.ends(2));
        Check.due("ends(3)", 7, x.ends(3));
    }

    private static void bothBroken() {
        Check.sentence("those in which something is BROKEN (2)");
        FarStore x = Check.pair("put 2 0;", "put 0 0;");
        x.word(0, 0, 0);
        x.word(2, 0, 0);
        Check.dueWalk(x, "both broken", 9, 1, 0, 1, 4);
    }

    private static void atMost12000() {
        Check.sentence("It isn't told if there are more than 12,000 STATES.");
        Check.due("walk() of 12,000", 12000, Large.justTold().walk());
        Check.due("ends(3) of 12,000", true, Large.justTold().ends(3) > 20);
        Check.due("both(0, 0) of 12,000", 0, Large.justTold().both(0, 0));
        Check.due("outcome(0, 0) of 12,000", 25, Large.justTold().outcome(0, 0));
        Check.due("walk() of 12,001", -2, Large.justUntold().walk());
        Check.due("both(0, 0) of 12,001", -2, Large.justUntold().both(0, 0));
        Check.due("outcome(0, 0) of 12,001", -2, Large.justUntold().outcome(0, 0));
    }

    private static void states() {
        Check.sentence("STATES of THE WALK. -2: more than 12,000.");
        Check.due("walk() of a new object", 1, new FarStore().walk());
        FarStore x = Large.justUntold();
        Check.due("walk()", -2, x.walk());
        Check.due("walk() again", -2, x.walk());
        x.falls(false);
        Check.due("walk() without falls", 3107, x.walk());
        x.falls(true);
        Check.due("walk() with falls again", -2, x.walk());
        Check.due("a shorter program", 0, Check.tell(x, 1, ""));
        Check.due("walk() of it", true, x.walk() > 0);
        FarStore told = Large.justTold();
        Check.due("walk()", 12000, told.walk());
        Check.due("walk() again", 12000, told.walk());
        // With nobody, host 0 or host 1 fallen 24 each, and with host 1 fallen 7 broken ones.
        Check.dueUnchanged("walk()", 79, Check::busy, FarStore::walk);
    }

    private static void mostSteps() {
        Check.sentence("the most STEPS of a STATE (3)");
        Check.due("ends(3) of a new object", 0, new FarStore().ends(3));
        FarStore x = Check.pair("put 2 0;".repeat(7), "put 0 0;".repeat(7));
        Check.due("ends(3) of 14 puts", 28, x.ends(3));
        x.falls(true);
        Check.due("ends(3) of 14 puts and a fall", 29, x.ends(3));
    }

    private static void endsOfOthers() {
        Check.sentence("NONE for others; -2 as walk(). ## Promise 10");
        for (int what : OTHERS) {
            Check.dueUnchanged("ends(" + what + ")", -1, Check::busy, x -> x.ends(what));
            Check.due("ends(" + what + ") of an untold walk", -1, Large.justUntold().ends(what));
        }
    }

    private static void endsUntold() {
        Check.sentence("NONE for others; -2 as walk(). ## Promise 10");
        FarStore x = Large.justUntold();
        for (int what = 0; what < 4; what++) {
            Check.due("ends(" + what + ")", -2, x.ends(what));
        }
        x.falls(false);
        for (int what = 0; what < 4; what++) {
            Check.due("ends(" + what + ") is told", true, x.ends(what) >= 0);
        }
    }

    private static void followsChanges() {
        Check.sentence("STATES of THE WALK.");
        FarStore x = Check.pair("put 2 1;", "");
        Check.due("walk()", 3, x.walk());
        Check.due("a faulty text", -1, Check.tell(x, 0, "put 2 1;put 2"));
        Check.due("walk() behind a faulty text", 3, x.walk());
        Check.due("program(1)", 1, Check.tell(x, 1, "put 0 1;"));
        Check.due("walk() behind a program", 9, x.walk());
        x.word(0, 1, 7);
        Check.due("outcome(17, 15) behind a word", 4, x.outcome(17, 15));
        x.word(0, 1, 5);
        Check.due("outcome(17, 15) behind rights", -1, x.outcome(17, 15));
        Check.due("program(0)", 0, Check.tell(x, 0, ""));
        Check.due("walk() behind a program", 3, x.walk());
        Check.due("missing(false, 0, 1)", -1, x.missing(false, 0, 1));
        Check.dueWalk(x, "behind missing()", 3, 1, 0, 1, 2);
    }
}
