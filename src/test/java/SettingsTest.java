/** Promises 1, 6, 7 and 15: a new object, word, falls, about. */
public final class SettingsTest {
    private static final int MIN = Integer.MIN_VALUE;
    private static final int MAX = Integer.MAX_VALUE;

    public static void main(String[] args) {
        none();
        newObject();
        newObjectsWalk();
        words();
        wrongWords();
        toldWordsBeginEachWalk();
        falls();
        statementsOfHosts();
        bytesOfTape();
        mayFall();
        wordsAndRights();
        aboutOthers();
        Check.finish();
    }

    private static void none() {
        Check.sentence("`NONE = -1`: None.");
        Check.due("NONE", -1, FarStore.NONE);
    }

    private static void newObject() {
        Check.sentence("Programs without STATEMENTS, WORDS 0, all RIGHTS, no FALLS.");
        FarStore x = new FarStore();
        Check.due("about(0)", 0, x.about(0));
        Check.due("about(1)", 0, x.about(1));
        Check.due("about(2)", 0, x.about(2));
        Check.due("about(3)", 0, x.about(3));
        for (int w = 0; w < 4; w++) {
            Check.due("about(10 + " + w + ")", 0, x.about(10 + w));
            Check.due("about(20 + " + w + ")", 7, x.about(20 + w));
        }
        for (int host = 0; host < 2; host++) {
            for (int what = 0; what < 5; what++) {
                Check.due("statement(" + host + ", 0, " + what + ")", -1, x.statement(host, 0, what));
            }
        }
        Check.due("step(0)", -1, x.step(0));
        Check.due("fault(0)", -1, x.fault(0));
        Check.due("fault(1)", -1, x.fault(1));
    }

    private static void newObjectsWalk() {
        Check.sentence("Programs without STATEMENTS, WORDS 0, all RIGHTS, no FALLS.");
        FarStore x = new FarStore();
        Check.dueWalk(x, "a new object", 1, 1, 1, 0, 0);
        Check.dueBoth(x, 0, 0, "");
        Check.dueOutcome(x, 0, 15, "");
        for (int w = 0; w < 4; w++) {
            for (int v = 1; v < 4; v++) {
                Check.dueOutcome(x, v << 2 * w, 1 << w, null);
            }
        }
        Check.due("missing(false, 0, 0)", -1, x.missing(false, 0, 0));
        Check.due("missing(true, 0, 0)", -1, x.missing(true, 0, 0));
    }

    private static void words() {
        Check.sentence("A WORD at the beginning, its RIGHTS (0 .. 7): true.");
        for (int w = 0; w < 4; w++) {
            FarStore x = new FarStore();
            for (int v = 0; v < 4; v++) {
                for (int rights = 0; rights < 8; rights++) {
                    Check.due("word(" + w + ", " + v + ", " + rights + ")", true, x.word(w, v, rights));
                    Check.due("its value", v, x.about(10 + w));
                    Check.due("its rights", rights, x.about(20 + w));
                }
            }
            for (int other = 0; other < 4; other++) {
                Check.due("the value of " + other, other == w ? 3 : 0, x.about(10 + other));
                Check.due("the rights of " + other, 7, x.about(20 + other));
            }
        }
    }

    private static void wrongWords() {
        Check.sentence("False, changing nothing, for others.");
        int[][] others = {{-1, 1, 3}, {4, 1, 3}, {1, -1, 3}, {1, 4, 3}, {1, 1, -1}, {1, 1, 8}, {3, 4, 3}, {3, 0, 8},
            {MIN, 1, 3}, {MAX, 1, 3}, {1, MIN, 3}, {1, MAX, 3}, {1, 1, MIN}, {1, 1, MAX}, {0, 256, 3}, {0, 1, 256}};
        for (int[] one : others) {
            Check.dueUnchanged("word(" + one[0] + ", " + one[1] + ", " + one[2] + ")", false, Check::busy,
                x -> x.word(one[0], one[1], one[2]));
        }
    }

    private static void toldWordsBeginEachWalk() {
        Check.sentence("(at first 0; told ones at the beginning of each walk)");
        FarStore x = Check.pair("add 2 1 0;", "");
        Check.dueOutcome(x, 1 << 4, 15, "02");
        Check.dueOutcome(x, 1 << 4, 15, "02");
        x.word(2, 2, 7);
        Check.dueOutcome(x, 3 << 4, 15, "02");
        Check.due("missing(true, 48, 15)", -1, x.missing(true, 3 << 4, 15));
        Check.dueOutcome(x, 3 << 4, 15, "02");
        Check.due("about(12)", 2, x.about(12));
        for (int w = 0; w < 4; w++) {
            FarStore plain = new FarStore();
            plain.word(w, 3, 0);
            Check.dueOutcome(plain, 3 << 2 * w, 15, "");
            plain.word(w, 0, 0);
            Check.dueOutcome(plain, 3 << 2 * w, 15, null);
            Check.dueOutcome(plain, 0, 15, "");
        }
    }

    private static void falls() {
        Check.sentence("Whether a host may FALL.");
        FarStore x = new FarStore();
        for (boolean may : new boolean[] {false, true, true, false, false, true}) {
            x.falls(may);
            Check.due("about(3)", may ? 1 : 0, x.about(3));
            Check.due("walk()", may ? 3 : 1, x.walk());
        }
        Check.dueUnchanged("falls(true) again", 0, Check::busy, busy -> {
            busy.falls(true);
            return 0;
        });
        Check.dueUnchanged("falls(false) and falls(true)", 0, Check::busy, busy -> {
            busy.falls(false);
            busy.falls(true);
            return 0;
        });
    }

    private static void statementsOfHosts() {
        Check.sentence("0, 1 STATEMENTS of a host");
        FarStore x = new FarStore();
        for (int count = 0; count <= 7; count++) {
            Check.due("program(0)", count, Check.tell(x, 0, "wait;".repeat(count)));
            Check.due("program(1)", 7 - count, Check.tell(x, 1, "wait;".repeat(7 - count)));
            Check.due("about(0)", count, x.about(0));
            Check.due("about(1)", 7 - count, x.about(1));
        }
    }

    private static void bytesOfTape() {
        Check.sentence("2 bytes of the tape");
        FarStore x = new FarStore();
        Check.due("about(2) without a tape", 0, x.about(2));
        for (int n = 20; n <= 200; n += 20) {
            x.feed(0, 0, 0, 0, 0);
            Check.due("about(2)", n, x.about(2));
        }
        for (int n : new int[] {200, 199, 13, 1, 0}) {
            x.end(n);
            Check.due("about(2)", n, x.about(2));
        }
    }

    private static void mayFall() {
        Check.sentence("3 whether there may be FALLS (1, 0)");
        FarStore x = new FarStore();
        Check.due("about(3) at first", 0, x.about(3));
        x.falls(true);
        Check.due("about(3)", 1, x.about(3));
        x.falls(false);
        Check.due("about(3)", 0, x.about(3));
    }

    private static void wordsAndRights() {
        Check.sentence("10 + w a WORD, 20 + w its RIGHTS.");
        FarStore x = new FarStore();
        int[] values = {3, 0, 2, 1};
        int[] rights = {0, 7, 5, 2};
        for (int w = 0; w < 4; w++) {
            x.word(w, values[w], rights[w]);
        }
        for (int w = 0; w < 4; w++) {
            Check.due("about(10 + " + w + ")", values[w], x.about(10 + w));
            Check.due("about(20 + " + w + ")", rights[w], x.about(20 + w));
        }
        Check.tell(x, 0, "set 0 1;");
        Check.due("walk()", 2, x.walk());
        Check.due("about(10) is the word at the beginning, behind a walk too", 3, x.about(10));
    }

    private static void aboutOthers() {
        Check.sentence("NONE for others. ## Not promised");
        int[] others = {-1, 4, 5, 9, 14, 15, 19, 24, 30, 100, -10, MAX, MIN};
        for (int what : others) {
            Check.dueUnchanged("about(" + what + ")", -1, Check::busy, x -> x.about(what));
        }
    }
}
