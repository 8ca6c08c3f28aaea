import java.util.Random;

/** Calls in any order with any numbers: none throws, and the same calls give the same answers. */
public final class AnyCallsTest {
    private static final int[] EDGES = {0, 1, 2, 3, 4, 5, 6, 7, 8, 9, 10, 13, 14, 15, 16, 20, 23, 24, 31, 32, 199, 200, 201,
        255, 256, -1, -2, Integer.MAX_VALUE, Integer.MIN_VALUE};
    private static final String[] PIECES = {"put 2 1;", "get 2 0;", "swap 3 0 1 1;", "add 3 1 0;", "put 0 1;", "get 1 0;",
        "fence;", "wait;", "set 0 1;", "load 2 1;", "if 0 0 3;", "if 1 0 7;", "put 2", "9", "?"};

    // What an object answers behind its 512th call is free; a text takes up to ten feeds, two ends and a program.
    private static final int CALLS = 512;
    private static final int CALLS_OF_A_TEXT = 13;

    public static void main(String[] args) {
        for (int seed = 0; seed < 150; seed++) {
            Check.due("the same calls, seed " + seed, run(seed), run(seed));
        }
        Check.finish();
    }

    private static long run(int seed) {
        Random random = new Random(seed);
        FarStore x = new FarStore();
        long sum = 0;
        int calls = 0;
        while (calls + CALLS_OF_A_TEXT <= CALLS) {
            boolean isText = random.nextInt(8) == 0;
            sum = sum * 31 + (isText ? Check.tell(x, random.nextInt(2), anyText(random)) : anyCall(random, x));
            calls += isText ? CALLS_OF_A_TEXT : 1;
        }
        return sum;
    }

    private static int any(Random random) {
        return random.nextInt(9) == 0 ? random.nextInt() : EDGES[random.nextInt(random.nextBoolean() ? 5 : EDGES.length)];
    }

    private static int anyCall(Random random, FarStore x) {
        int a = any(random);
        int b = any(random);
        int c = any(random);
        switch (random.nextInt(14)) {
            case 0:
                return x.feed(a, b, c, any(random), any(random));
            case 1:
                return x.end(a);
            case 2:
                return x.program(a);
            case 3:
                return x.fault(a);
            case 4:
                return x.word(a, b, c) ? 1 : 0;
            case 5:
                x.falls(random.nextBoolean());
                return 0;
            case 6:
                return x.walk();
            case 7:
                return x.ends(a);
            case 8:
                return x.both(a, b);
            case 9:
                return x.outcome(a, b);
            case 10:
                return x.step(a);
            case 11:
                return x.missing(random.nextBoolean(), a, b);
            case 12:
                return x.statement(a, b, c);
            default:
                return x.about(a);
        }
    }

    private static String anyText(Random random) {
        StringBuilder text = new StringBuilder();
        int size = random.nextInt(9);
        for (int i = 0; i < size; i++) {
            text.append(PIECES[random.nextInt(PIECES.length)]);
        }
        return text.toString();
    }
}
