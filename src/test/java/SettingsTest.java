/** Promises 1, 6, 7 and 15: a new object, word, falls, about. */
public final class SettingsTest {
    public static void main(String[] args) {
        newObject();
        words();
        wrongWords();
        falls();
        about();
        Check.finish();
    }

    private static void newObject() {
        FarStore x = new FarStore();
        Check.due("NONE", -1, FarStore.NONE);
        Check.due("about(0)", 0, x.about(0));
        Check.due("about(1)", 0, x.about(1));
        Check.due("about(2)", 0, x.about(2));
        Check.due("about(3)", 0, x.about(3));
        for (int w = 0; w < 4; w++) {
            Check.due("about(1w)", 0, x.about(10 + w));
            Check.due("about(2w)", 7, x.about(20 + w));
        }
        Check.due("walk()", 1, x.walk());
        Check.due("step(0)", -1, x.step(0));
        Check.due("fault(0)", -1, x.fault(0));
        Check.due("fault(1)", -1, x.fault(1));
        Check.due("outcome(0, 15)", 0, x.outcome(0, 15));
        Check.due("statement(0, 0, 0)", -1, x.statement(0, 0, 0));
    }

    private static void words() {
        FarStore x = new FarStore();
        for (int w = 0; w < 4; w++) {
            for (int v = 0; v < 4; v++) {
                for (int rights = 0; rights < 8; rights++) {
                    Check.due("word", true, x.word(w, v, rights));
                    Check.due("about(10 + w)", v, x.about(10 + w));
                    Check.due("about(20 + w)", rights, x.about(20 + w));
                }
            }
        }
        Check.due("word", true, x.word(1, 2, 0));
        Check.due("outcome of told words", 0, x.outcome(0xFF ^ 4, 15));
        Check.due("outcome of other words", -1, x.outcome(0xFF, 15));
        Check.due("walks begin at told words again", 0, x.outcome(0xFF ^ 4, 15));
    }

    private static void wrongWords() {
        FarStore x = new FarStore();
        x.word(0, 1, 2);
        int[][] wrong = {{-1, 0, 0}, {4, 0, 0}, {0, -1, 0}, {0, 4, 0}, {0, 0, -1}, {0, 0, 8},
            {Integer.MIN_VALUE, 0, 0}, {0, Integer.MAX_VALUE, 0}, {0, 0, Integer.MIN_VALUE}};
        for (int[] one : wrong) {
            Check.due("wrong word", false, x.word(one[0], one[1], one[2]));
        }
        int[] due = {1, 0, 0, 0, 2, 7, 7, 7};
        for (int w = 0; w < 4; w++) {
            Check.due("about(10 + w)", due[w], x.about(10 + w));
            Check.due("about(20 + w)", due[4 + w], x.about(20 + w));
        }
    }

    private static void falls() {
        FarStore x = new FarStore();
        x.falls(true);
        Check.due("about(3)", 1, x.about(3));
        Check.due("walk() with falls", 3, x.walk());
        x.falls(true);
        Check.due("walk() with falls", 3, x.walk());
        x.falls(false);
        Check.due("about(3)", 0, x.about(3));
        Check.due("walk() without", 1, x.walk());
    }

    private static void about() {
        FarStore x = Check.pair("fence; wait;", "if 0 0 7;");
        Check.due("about(0)", 2, x.about(0));
        Check.due("about(1)", 1, x.about(1));
        x.feed(1, 2, 3, 4, 5);
        x.end(13);
        Check.due("about(2)", 13, x.about(2));
        int[] others = {-1, 4, 9, 14, 19, 24, 100, Integer.MAX_VALUE, Integer.MIN_VALUE};
        for (int what : others) {
            Check.due("about(" + what + ")", -1, x.about(what));
        }
    }
}
