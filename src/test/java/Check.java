import java.io.IOException;
import java.nio.charset.StandardCharsets;
import java.nio.file.Files;
import java.nio.file.Path;
import java.util.function.Function;
import java.util.function.Supplier;

/** What the tests share: the count of wrong answers, and ways to tell a FarStore its programs. */
final class Check {
    private static final Path DOCUMENT = Path.of("../shared/DOC.md");

    private static int asked = 0;
    private static int wrong = 0;
    private static String words = "";
    private static String document = null;

    private Check() {
    }

    /** The document's words that the answers from here on are held against: they must stand there as they do here. */
    static void sentence(String quoted) {
        words = quoted;
        due("the document's own words", true, document().isEmpty() || document().contains(quoted));
    }

    /** The document's text, each run of blanks as one; without the file the quotes are taken as they are. */
    private static String document() {
        if (document == null) {
            try {
                document = Files.exists(DOCUMENT) ? Files.readString(DOCUMENT).replaceAll("\\s+", " ") : "";
            } catch (IOException unreadable) {
                document = "";
            }
        }
        return document;
    }

    static void due(String call, long want, long got) {
        asked++;
        if (got != want) {
            fail(call + " answered " + got + ", due is " + want);
        }
    }

    static void due(String call, boolean want, boolean got) {
        due(call, want ? 1 : 0, got ? 1 : 0);
    }

    static void due(String call, String want, String got) {
        asked++;
        if (!want.equals(got)) {
            fail(call + " answered \"" + got + "\", due is \"" + want + "\"");
        }
    }

    private static void fail(String what) {
        wrong++;
        System.out.println((words.isEmpty() ? "" : "\"" + words + "\": ") + what);
    }

    static void finish() {
        System.out.println(asked + " answers asked for, " + wrong + " not as due");
        if (wrong != 0 || asked == 0) {
            System.exit(1);
        }
    }

    /** Makes the text the whole tape. */
    static void tape(FarStore x, String text) {
        byte[] bytes = text.getBytes(StandardCharsets.ISO_8859_1);
        x.end(0);
        for (int at = 0; at < bytes.length; at += 20) {
            x.feed(four(bytes, at), four(bytes, at + 4), four(bytes, at + 8), four(bytes, at + 12), four(bytes, at + 16));
        }
        due("end(" + bytes.length + ")", bytes.length, x.end(bytes.length));
    }

    private static int four(byte[] bytes, int at) {
        int four = 0;
        for (int i = at; i < at + 4; i++) {
            four = four << 8 | (i < bytes.length ? bytes[i] & 255 : 0);
        }
        return four;
    }

    static int tell(FarStore x, int host, String text) {
        tape(x, text);
        return x.program(host);
    }

    static FarStore pair(String first, String second) {
        FarStore x = new FarStore();
        due("program(0) of " + first, count(first), tell(x, 0, first));
        due("program(1) of " + second, count(second), tell(x, 1, second));
        return x;
    }

    /** One host with a program, the other one without statements. */
    static FarStore alone(int host, String program) {
        return host == 0 ? pair(program, "") : pair("", program);
    }

    private static int count(String text) {
        return (int) text.chars().filter(c -> c == ';').count();
    }

    /** An object of which every part has been told, so that a part which changes can be seen. */
    static FarStore busy() {
        FarStore x = pair("get 2 0;put 3 1;", "if 0 0 1;put 0 2;set 2 3;");
        x.word(1, 2, 5);
        x.word(3, 1, 6);
        x.falls(true);
        due("both(1, 2)", 2, x.both(1, 2));
        due("a text with a fault", -1, tell(x, 0, "wait; ?"));
        tape(x, "fence;load 0 1;");
        return x;
    }

    /** The call answers so, and its object then looks like one that never had it, but for the parts left out. */
    static void dueUnchanged(String name, Object want, Supplier<FarStore> made, Function<FarStore, Object> call,
            Look.Part... leftOut) {
        FarStore x = made.get();
        due(name, want.toString(), call.apply(x).toString());
        due("behind " + name + " a look", Look.at(made.get(), leftOut), Look.at(x, leftOut));
    }

    /** The row that step() tells, as digits. */
    static String row(FarStore x) {
        StringBuilder row = new StringBuilder();
        int step = x.step(0);
        while (step != FarStore.NONE) {
            row.append(step);
            step = x.step(row.length());
        }
        return row.toString();
    }

    static void dueRow(String call, String want, FarStore x) {
        due("step() behind " + call, want, row(x));
    }

    /** both() tells a state at the row's end; null: none can come, or there are none such. */
    static void dueBoth(FarStore x, int a, int b, String row) {
        String call = "both(" + a + ", " + b + ")";
        due(call, row == null ? -1 : row.length(), x.both(a, b));
        if (row != null) {
            dueRow(call, row, x);
        }
    }

    /** outcome() tells a good end at the row's end; null: none can come, or it isn't an outcome. */
    static void dueOutcome(FarStore x, int values, int set, String row) {
        String call = "outcome(" + values + ", " + set + ")";
        due(call, row == null ? -1 : row.length(), x.outcome(values, set));
        if (row != null) {
            dueRow(call, row, x);
        }
    }

    /** walk() and ends(0) to ends(3). */
    static void dueWalk(FarStore x, String name, int states, int... ends) {
        due(name + ": walk()", states, x.walk());
        for (int what = 0; what < ends.length; what++) {
            due(name + ": ends(" + what + ")", ends[what], x.ends(what));
        }
    }
}
