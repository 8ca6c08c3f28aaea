import java.nio.charset.StandardCharsets;

/** What the tests share: the count of wrong answers, and ways to tell a FarStore its programs. */
final class Check {
    private static int asked = 0;
    private static int wrong = 0;

    private Check() {
    }

    static void due(String call, long want, long got) {
        asked++;
        if (got != want) {
            wrong++;
            System.out.println(call + " answered " + got + ", due is " + want);
        }
    }

    static void due(String call, boolean want, boolean got) {
        due(call, want ? 1 : 0, got ? 1 : 0);
    }

    static void finish() {
        System.out.println(asked + " answers asked for, " + wrong + " not as due");
        if (wrong != 0 || asked == 0) {
            System.exit(1);
        }
    }

    /** Makes the text the whole tape. */
    static void tape(FarStore x, String text) {
        tape(x, text.getBytes(StandardCharsets.ISO_8859_1));
    }

    static void tape(FarStore x, byte[] text) {
        x.end(0);
        for (int at = 0; at < text.length; at += 20) {
            x.feed(four(text, at), four(text, at + 4), four(text, at + 8), four(text, at + 12), four(text, at + 16));
        }
        due("end(" + text.length + ")", text.length, x.end(text.length));
    }

    private static int four(byte[] text, int at) {
        int four = 0;
        for (int i = at; i < at + 4; i++) {
            four = four << 8 | (i < text.length ? text[i] & 255 : 0);
        }
        return four;
    }

    static int tell(FarStore x, int host, String text) {
        tape(x, text);
        return x.program(host);
    }

    static FarStore pair(String first, String second) {
        FarStore x = new FarStore();
        due("program(0) of " + first, count(first), tell(x, 0, first));
        due("program(1) of " + second, count(second), tell(x, 1, second));
        return x;
    }

    private static int count(String text) {
        return (int) text.chars().filter(c -> c == ';').count();
    }

    /** The row that step() tells, as digits. */
    static String row(FarStore x) {
        StringBuilder row = new StringBuilder();
        for (int i = 0; x.step(i) != FarStore.NONE; i++) {
            row.append(x.step(i));
        }
        return row.toString();
    }

    static void dueRow(String call, String want, FarStore x) {
        due("step() behind " + call + ": " + row(x) + " for " + want, true, want.equals(row(x)));
    }
}
