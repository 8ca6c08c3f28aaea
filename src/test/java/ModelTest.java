import java.util.Random;

/** Promises 8 to 13 on many pairs of programs, held against the plain model. */
public final class ModelTest {
    private static final String[] NAMES = {"put", "get", "swap", "add", "fence", "wait", "set", "load", "if"};
    // By sort: w a word of the other host, o an own one, v a value, r a register, n a count.
    private static final String[] SHAPES = {"wv", "wr", "wvvr", "wvr", "", "", "ov", "or", "rvn"};

    // With falls these have more than 12,000 states, 12,000, 12,000, 12,000, 12,001, 12,001, and some 9,000.
    private static final String[][] LARGE = {
        {"get 2 0;get 2 1;put 2 1;set 0 1;set 0 2;", "get 0 0;get 0 1;put 0 1;set 2 1;set 2 2;"},
        {"set 1 3;set 1 2;add 3 2 0;put 3 0;get 2 0;swap 2 0 2 1;add 2 2 0;",
            "swap 1 0 2 0;add 1 1 1;swap 0 0 1 0;add 0 1 0;get 0 1;set 3 2;swap 1 0 1 0;"},
        {"add 2 1 0;get 2 1;put 3 0;swap 3 0 1 0;add 3 2 1;put 3 1;",
            "get 1 1;load 3 0;set 2 2;get 0 1;get 1 0;add 0 3 1;put 1 3;"},
        {"set 1 0;get 2 0;swap 3 0 1 0;put 2 2;get 2 1;get 2 0;add 3 2 1;",
            "get 1 1;add 0 1 1;get 0 0;swap 0 0 2 0;add 1 3 1;set 2 1;"},
        {"load 1 0;add 3 1 0;get 3 0;load 1 1;load 0 1;set 0 0;get 3 0;",
            "get 0 0;add 0 3 1;set 3 3;put 1 2;put 0 2;load 3 0;"},
        {"get 2 1;get 3 0;set 1 3;swap 2 0 1 1;put 3 3;get 2 1;",
            "get 0 1;add 0 3 1;get 0 1;swap 1 0 3 1;add 1 2 0;add 1 3 1;"},
        {"load 1 0;add 3 1 0;get 3 0;load 1 1;set 0 0;get 3 0;", "get 0 0;add 0 3 1;set 3 3;put 1 2;put 0 2;load 3 0;"}
    };

    private static int many = 0;
    private static int barred = 0;
    private static int untoldFences = 0;

    public static void main(String[] args) {
        for (int seed = 0; seed < 500; seed++) {
            run(new Random(seed), 3, seed);
        }
        for (int seed = 1000; seed < 1120; seed++) {
            run(new Random(seed), 5, seed);
        }
        for (int seed = 2000; seed < 2030; seed++) {
            run(new Random(seed), 7, seed);
        }
        for (String[] pair : LARGE) {
            runTold(pair);
        }
        System.out.println(many + " walks untold, " + barred + " fences found, " + untoldFences + " fences untold");
        Check.due("some walks have more than 12,000 states", true, many > 1);
        Check.due("some walks have so many with a fence alone", true, untoldFences > 1);
        Check.due("some fences bar", true, barred > 30);
        Check.finish();
    }

    private static void run(Random random, int most, int seed) {
        Model model = new Model();
        FarStore x = new FarStore();
        for (int host = 0; host < 2; host++) {
            model.programs[host] = program(random, host, random.nextInt(most + 1));
            Check.due("program", model.programs[host].length, Check.tell(x, host, text(random, model.programs[host])));
        }
        tellWords(random, model, x);
        model.falls = random.nextInt(3) == 0;
        x.falls(model.falls);
        model.walk();
        compare(random, model, x, "seed " + seed);
    }

    private static void runTold(String[] pair) {
        for (int falls = 0; falls < 2; falls++) {
            Model model = new Model();
            FarStore x = Check.pair(pair[0], pair[1]);
            for (int host = 0; host < 2; host++) {
                model.programs[host] = statements(x, host);
            }
            model.falls = falls == 1;
            x.falls(model.falls);
            model.walk();
            compare(new Random(falls), model, x, pair[0] + " | " + pair[1] + " falls " + falls);
        }
    }

    private static int[][] statements(FarStore x, int host) {
        int[][] program = new int[x.about(host)][];
        for (int i = 0; i < program.length; i++) {
            program[i] = new int[1 + SHAPES[x.statement(host, i, 0)].length()];
            for (int what = 0; what < program[i].length; what++) {
                program[i][what] = x.statement(host, i, what);
            }
        }
        return program;
    }

    private static void tellWords(Random random, Model model, FarStore x) {
        for (int w = 0; w < 4; w++) {
            model.words[w] = random.nextInt(3) == 0 ? random.nextInt(4) : 0;
            model.rights[w] = random.nextInt(4) == 0 ? random.nextInt(8) : 7;
            Check.due("word", true, x.word(w, model.words[w], model.rights[w]));
        }
    }

    private static int[][] program(Random random, int host, int size) {
        int[] frequent = {0, 1, 1, 1, 2, 3, 4, 5, 6, 7, 8, 8};
        int[][] program = new int[size][];
        for (int i = 0; i < size; i++) {
            int sort = frequent[random.nextInt(frequent.length)];
            String shape = SHAPES[sort];
            program[i] = new int[1 + shape.length()];
            program[i][0] = sort;
            for (int k = 0; k < shape.length(); k++) {
                program[i][1 + k] = number(random, host, shape.charAt(k));
            }
        }
        return program;
    }

    private static int number(Random random, int host, char kind) {
        switch (kind) {
            case 'w':
                return 2 * (1 - host) + random.nextInt(2);
            case 'o':
                return 2 * host + random.nextInt(2);
            case 'v':
                return random.nextInt(random.nextBoolean() ? 2 : 4);
            case 'r':
                return random.nextInt(2);
            default:
                return 1 + random.nextInt(random.nextBoolean() ? 2 : 7);
        }
    }

    private static String text(Random random, int[][] program) {
        StringBuilder text = new StringBuilder();
        for (int[] statement : program) {
            text.append(NAMES[statement[0]]);
            for (int k = 1; k < statement.length; k++) {
                text.append(random.nextInt(5) == 0 ? "\n " : " ").append(statement[k]);
            }
            text.append(random.nextInt(5) == 0 ? " ;\n" : ";");
        }
        return text.toString();
    }

    private static void compare(Random random, Model model, FarStore x, String run) {
        boolean told = model.states != null;
        many += told ? 0 : 1;
        Check.due(run + " walk()", told ? model.states.size() : -2, x.walk());
        for (int what = 0; what < 4; what++) {
            Check.due(run + " ends(" + what + ")", told ? model.ends(what) : -2, x.ends(what));
        }
        for (int a = 0; a <= model.programs[0].length; a++) {
            for (int b = 0; b <= model.programs[1].length; b++) {
                compareRow(model, x, false, a, b, run);
            }
        }
        for (int k = 0; k < 30; k++) {
            compareRow(model, x, true, random.nextInt(256), k == 0 ? 0 : random.nextInt(16), run);
        }
        String kept = Check.row(x);
        for (int k = 0; k < (told && model.states.size() < 3000 ? 8 : 2); k++) {
            boolean ends = k % 2 == 0;
            int a = ends ? random.nextInt(256) : random.nextInt(model.programs[0].length + 1);
            int b = ends ? 1 << random.nextInt(4) : random.nextInt(model.programs[1].length + 1);
            int want = model.missing(ends, a, b);
            barred += want >= 0 ? 1 : 0;
            untoldFences += told && want == -2 ? 1 : 0;
            Check.due(run + " missing(" + ends + ", " + a + ", " + b + ")", want, x.missing(ends, a, b));
            Check.dueRow(run + " missing", kept, x);
        }
        Check.due(run + " walk() behind missing()", told ? model.states.size() : -2, x.walk());
    }

    private static void compareRow(Model model, FarStore x, boolean ends, int a, int b, String run) {
        String call = run + (ends ? " outcome(" : " both(") + a + ", " + b + ")";
        int got = ends ? x.outcome(a, b) : x.both(a, b);
        if (model.states == null) {
            Check.due(call, -2, got);
            return;
        }
        String row = model.row(ends, a, b);
        Check.due(call, row == null ? -1 : row.length(), got);
        if (row != null) {
            Check.dueRow(call, row, x);
        }
    }
}
