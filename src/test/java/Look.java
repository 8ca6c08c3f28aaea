import java.util.List;

/** All that can be asked of an object, as one text: objects with the same past must look the same. */
final class Look {
    enum Part { ROW, SETTINGS, FAULT, PROGRAMS, WALK, TAPE }

    private Look() {
    }

    /** Asks once: the answers of walks make rows of their own, and the tape is read by making it a program. */
    static String at(FarStore x, Part... leftOut) {
        StringBuilder look = new StringBuilder();
        for (Part part : Part.values()) {
            String seen = seen(x, part);
            if (!List.of(leftOut).contains(part)) {
                look.append(part).append(": ").append(seen).append('\n');
            }
        }
        return look.toString();
    }

    private static String seen(FarStore x, Part part) {
        switch (part) {
            case ROW:
                return Check.row(x);
            case SETTINGS:
                return settings(x);
            case FAULT:
                return x.fault(0) + " at " + x.fault(1);
            case PROGRAMS:
                return program(x, 0) + program(x, 1);
            case WALK:
                return walk(x);
            default:
                return tape(x);
        }
    }

    private static String settings(FarStore x) {
        StringBuilder settings = new StringBuilder().append(x.about(3));
        for (int w = 0; w < 4; w++) {
            settings.append(' ').append(x.about(10 + w)).append('/').append(x.about(20 + w));
        }
        return settings.toString();
    }

    private static String program(FarStore x, int host) {
        StringBuilder program = new StringBuilder().append(x.about(host)).append(" statements");
        for (int i = 0; i < 7; i++) {
            program.append(',');
            for (int what = 0; what < 5; what++) {
                program.append(' ').append(x.statement(host, i, what));
            }
        }
        return program.append(". ").toString();
    }

    private static String walk(FarStore x) {
        StringBuilder walk = new StringBuilder().append(x.walk());
        for (int what = 0; what < 4; what++) {
            walk.append(' ').append(x.ends(what));
        }
        for (int a = 0; a <= x.about(0); a++) {
            for (int b = 0; b <= x.about(1); b++) {
                walk.append(' ').append(x.both(a, b));
            }
        }
        for (int set = 1; set < 16; set *= 2) {
            for (int v = 0; v < 4; v++) {
                walk.append(' ').append(x.outcome(v * 0x55, set));
            }
        }
        return walk.toString();
    }

    private static String tape(FarStore x) {
        int bytes = x.about(2);
        return bytes + " bytes, " + x.program(0) + ": " + program(x, 0);
    }
}
