import java.util.Random;
import java.util.function.Supplier;

/** Promises 8 to 13 on many pairs of programs, held against the plain model. */
public final class ModelTest {
    private static final String[] NAMES = {"put", "get", "swap", "add", "fence", "wait", "set", "load", "if"};
    // By sort: w a word of the other host, o an own one, v a value, r a register, n a count.
    private static final String[] SHAPES = {"wv", "wr", "wvvr", "wvr", "", "", "ov", "or", "rvn"};

    private static int many = 0;
    private static int barred = 0;
    private static int untoldFences = 0;

    public static void main(String[] args) {
        for (int seed = 0; seed < 500; seed++) {
            run(new Random(seed), 3, seed);
        }
        for (int seed = 1000; seed < 1120; seed++) {
            run(new Random(seed), 5, seed);
        }
        for (int seed = 2000; seed < 2030; seed++) {
            run(new Random(seed), 7, seed);
        }
        for (Supplier<FarStore> made : Large.all()) {
            runLarge(made, true);
            runLarge(made, false);
        }
        System.out.println(many + " walks untold, " + barred + " fences found, " + untoldFences + " fences untold");
        Check.due("some walks have more than 12,000 states", true, many > 1);
        Check.due("some walks have so many with a fence alone", true, untoldFences > 1);
        Check.due("some fences bar", true, barred > 30);
        Check.finish();
    }

    private static void run(Random random, int most, int seed) {
        Model model = new Model();
        String[] texts = new String[2];
        for (int host = 0; host < 2; host++) {
            model.programs[host] = program(random, host, random.nextInt(most + 1));
            texts[host] = text(random, model.programs[host]);
        }
        makeWords(random, model);
        model.falls = random.nextInt(3) == 0;
        model.walk();
        compare(random, model, () -> told(model, texts), "seed " + seed);
    }

    private static FarStore told(Model model, String[] texts) {
        FarStore x = Check.pair(texts[0], texts[1]);
        for (int w = 0; w < 4; w++) {
            Check.due("word", true, x.word(w, model.words[w], model.rights[w]));
        }
        x.falls(model.falls);
        return x;
    }

    private static void runLarge(Supplier<FarStore> made, boolean falls) {
        FarStore seen = made.get();
        Model model = new Model();
        for (int host = 0; host < 2; host++) {
            model.programs[host] = statements(seen, host);
        }
        for (int w = 0; w < 4; w++) {
            model.words[w] = seen.about(10 + w);
            model.rights[w] = seen.about(20 + w);
        }
        model.falls = falls;
        model.walk();
        Supplier<FarStore> told = () -> {
            FarStore x = made.get();
            x.falls(falls);
            return x;
        };
        int a = model.programs[0].length;
        int b = model.programs[1].length;
        String run = "large, of " + a + " and " + b + ", falls " + falls;
        compare(new Random(a), model, told, run);
        Check.due(run + " missing(false) at the beginning", model.missing(false, 0, 0), told.get().missing(false, 0, 0));
        Check.due(run + " missing(false) at the ends", model.missing(false, a, b), told.get().missing(false, a, b));
    }

    private static int[][] statements(FarStore x, int host) {
        int[][] program = new int[x.about(host)][];
        for (int i = 0; i < program.length; i++) {
            program[i] = new int[1 + SHAPES[x.statement(host, i, 0)].length()];
            for (int what = 0; what < program[i].length; what++) {
                program[i][what] = x.statement(host, i, what);
            }
        }
        return program;
    }

    private static void makeWords(Random random, Model model) {
        for (int w = 0; w < 4; w++) {
            model.words[w] = random.nextInt(3) == 0 ? random.nextInt(4) : 0;
            model.rights[w] = random.nextInt(4) == 0 ? random.nextInt(8) : 7;
        }
    }

    private static int[][] program(Random random, int host, int size) {
        int[] frequent = {0, 1, 1, 1, 2, 3, 4, 5, 6, 7, 8, 8};
        int[][] program = new int[size][];
        for (int i = 0; i < size; i++) {
            int sort = frequent[random.nextInt(frequent.length)];
            String shape = SHAPES[sort];
            program[i] = new int[1 + shape.length()];
            program[i][0] = sort;
            for (int k = 0; k < shape.length(); k++) {
                program[i][1 + k] = number(random, host, shape.charAt(k));
            }
        }
        return program;
    }

    private static int number(Random random, int host, char kind) {
        switch (kind) {
            case 'w':
                return 2 * (1 - host) + random.nextInt(2);
            case 'o':
                return 2 * host + random.nextInt(2);
            case 'v':
                return random.nextInt(random.nextBoolean() ? 2 : 4);
            case 'r':
                return random.nextInt(2);
            default:
                return 1 + random.nextInt(random.nextBoolean() ? 2 : 7);
        }
    }

    private static String text(Random random, int[][] program) {
        StringBuilder text = new StringBuilder();
        for (int[] statement : program) {
            text.append(NAMES[statement[0]]);
            for (int k = 1; k < statement.length; k++) {
                text.append(random.nextInt(5) == 0 ? "\n " : " ").append(statement[k]);
            }
            text.append(random.nextInt(5) == 0 ? " ;\n" : ";");
        }
        return text.toString();
    }

    /** Each part on a new object, as what one answers behind its 512th call is free. */
    private static void compare(Random random, Model model, Supplier<FarStore> told, String run) {
        many += model.states == null ? 1 : 0;
        compareWalk(model, told.get(), run);
        for (int a = 0; a <= model.programs[0].length; a++) {
            FarStore x = told.get();
            for (int b = 0; b <= model.programs[1].length; b++) {
                compareRow(model, x, false, a, b, run);
            }
        }
        for (int part = 0; part < 3; part++) {
            FarStore x = told.get();
            for (int k = 0; k < 10; k++) {
                compareRow(model, x, true, random.nextInt(256), k == 0 ? 0 : random.nextInt(16), run);
            }
        }
        compareMissing(random, model, told.get(), run);
    }

    private static void compareWalk(Model model, FarStore x, String run) {
        boolean isTold = model.states != null;
        Check.due(run + " walk()", isTold ? model.states.size() : -2, x.walk());
        for (int what = 0; what < 4; what++) {
            Check.due(run + " ends(" + what + ")", isTold ? model.ends(what) : -2, x.ends(what));
        }
    }

    private static void compareMissing(Random random, Model model, FarStore x, String run) {
        boolean isTold = model.states != null;
        x.outcome(0, 0);
        String kept = Check.row(x);
        for (int k = 0; k < (isTold && model.states.size() < 3000 ? 8 : 2); k++) {
            boolean ends = k % 2 == 0;
            int a = ends ? random.nextInt(256) : random.nextInt(model.programs[0].length + 1);
            int b = ends ? 1 << random.nextInt(4) : random.nextInt(model.programs[1].length + 1);
            int want = model.missing(ends, a, b);
            barred += want >= 0 ? 1 : 0;
            untoldFences += isTold && want == -2 ? 1 : 0;
            Check.due(run + " missing(" + ends + ", " + a + ", " + b + ")", want, x.missing(ends, a, b));
            Check.dueRow(run + " missing", kept, x);
        }
        compareWalk(model, x, run + " behind missing():");
    }

    private static void compareRow(Model model, FarStore x, boolean ends, int a, int b, String run) {
        String call = run + (ends ? " outcome(" : " both(") + a + ", " + b + ")";
        int got = ends ? x.outcome(a, b) : x.both(a, b);
        if (model.states == null) {
            Check.due(call, -2, got);
            return;
        }
        String row = model.row(ends, a, b);
        Check.due(call, row == null ? -1 : row.length(), got);
        if (row != null) {
            Check.dueRow(call, row, x);
        }
    }
}
