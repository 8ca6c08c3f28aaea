/** One host's programs and rows, written once for both hosts. */
final class Side {
    static final Side[] BOTH = {new Side(0), new Side(1)};

    final int host;
    /** The first word of the other host, and its own first one. */
    final int far;
    final int own;

    private Side(int host) {
        this.host = host;
        far = 2 - 2 * host;
        own = 2 * host;
    }

    /** X and Y stand for the other host's words, x and y for its own ones. */
    String text(String program) {
        return program.replace('X', digit(far)).replace('Y', digit(far + 1)).replace('x', digit(own)).replace('y', digit(own + 1));
    }

    FarStore alone(String program) {
        return Check.alone(host, text(program));
    }

    /** Its program beside the other host's, that one's words named as that one sees them. */
    FarStore beside(String program, String others) {
        String theirs = BOTH[1 - host].text(others);
        return host == 0 ? Check.pair(text(program), theirs) : Check.pair(theirs, text(program));
    }

    /** s stands for its statement, a, b and c for the wishes at the places of its queue; o and A for the other host's. */
    String row(String steps) {
        int first = 2 + 3 * host;
        return steps.replace('s', digit(host)).replace('a', digit(first)).replace('b', digit(first + 1))
            .replace('c', digit(first + 2)).replace('o', digit(1 - host)).replace('A', digit(5 - 3 * host));
    }

    void dueBoth(FarStore x, int place, int others, String steps) {
        String row = steps == null ? null : row(steps);
        Check.dueBoth(x, host == 0 ? place : others, host == 0 ? others : place, row);
    }

    void dueAt(FarStore x, int place, String steps) {
        dueBoth(x, place, 0, steps);
    }

    /** The word, and that one alone, is as told at a good end. */
    static void dueWord(FarStore x, int w, int v, int steps) {
        Check.due("outcome of word " + w + " being " + v, steps, x.outcome(v << 2 * w, 1 << w));
    }

    /** The word is as told at all good ends. */
    static void dueWordOnly(FarStore x, int w, int v, int steps) {
        for (int other = 0; other < 4; other++) {
            dueWord(x, w, other, other == v ? steps : -1);
        }
    }

    private static char digit(int number) {
        return (char) ('0' + number);
    }
}
