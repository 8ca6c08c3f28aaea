/** The terms of part II: what a host's statements do, and when they can't be done. */
public final class StatementsTest {
    private static final String[] WISHES = {"put X 0;", "get X 0;", "swap X 0 0 0;", "add X 0 0;"};

    public static void main(String[] args) {
        for (Side side : Side.BOTH) {
            threeWishes(side);
            othersNeedNoRoom(side);
            endOfQueue(side);
            fence(side);
            fenceAmongWishes(side);
            waits(side);
            setAtOnce(side);
            loadAtOnce(side);
            ifLeavesOut(side);
            ifGoesOn(side);
            ifAsFarAsThereAreAny(side);
            programsEnd(side);
            registersAtFirst(side);
        }
        registersOfEachHost();
        Check.finish();
    }

    private static void threeWishes(Side side) {
        Check.sentence("a WISH comes to the end of its QUEUE (3 at most: it can't while there are 3)");
        for (String wish : WISHES) {
            for (String queued : WISHES) {
                FarStore x = side.alone(queued.repeat(2) + wish + wish);
                side.dueAt(x, 1, "s");
                side.dueAt(x, 2, "ss");
                side.dueAt(x, 3, "sss");
                side.dueAt(x, 4, "sssas");
            }
        }
        FarStore seven = side.alone("put X 0;".repeat(7));
        side.dueAt(seven, 7, "sssasasasas");
        Check.dueWalk(seven, "seven puts", 26, 1, 1, 0, 14);
    }

    private static void othersNeedNoRoom(Side side) {
        Check.sentence("(3 at most: it can't while there are 3)");
        for (String other : new String[] {"fence;", "set x 0;", "load x 0;", "if 0 0 1;", "if 0 1 1;"}) {
            side.dueAt(side.alone("put X 0;put X 0;put X 0;" + other), 4, "ssss");
        }
        // Each host has a queue of its own.
        FarStore x = side.beside("put X 0;put X 0;put X 0;", "put X 0;put X 0;put X 0;");
        side.dueBoth(x, 3, 3, side.host == 0 ? "sssooo" : "ooosss");
    }

    private static void endOfQueue(Side side) {
        Check.sentence("a WISH comes to the end of its QUEUE");
        Side.dueWordOnly(side.alone("put X 1;put X 2;"), side.far, 2, 4);
        Side.dueWordOnly(side.alone("put X 1;put X 2;put X 3;"), side.far, 3, 6);
        Side.dueWordOnly(side.alone("put X 1;put X 2;put X 3;put X 0;"), side.far, 0, 8);
    }

    private static void fence(Side side) {
        Check.sentence("fence: it can only while no get is in its QUEUE");
        side.dueAt(side.alone("fence;"), 1, "s");
        side.dueAt(side.alone("fence;fence;"), 2, "ss");
        side.dueAt(side.alone("get X 0;fence;"), 2, "sas");
        side.dueAt(side.alone("get X 0;get X 0;fence;"), 3, "ssaas");
        side.dueAt(side.alone("get X 0;get X 0;get X 0;fence;"), 4, "sssaaas");
        for (String wish : new String[] {"put X 0;", "swap X 0 0 0;", "add X 0 0;"}) {
            side.dueAt(side.alone(wish + "fence;"), 2, "ss");
            side.dueAt(side.alone(wish.repeat(3) + "fence;"), 4, "ssss");
        }
        side.dueBoth(side.beside("fence;", "get X 0;"), 1, 1, side.host == 0 ? "so" : "os");
    }

    private static void fenceAmongWishes(Side side) {
        Check.sentence("fence: it can only while no get is in its QUEUE");
        side.dueAt(side.alone("get X 0;put X 0;put X 0;fence;"), 4, "sssas");
        side.dueAt(side.alone("put X 0;get X 0;put X 0;fence;"), 4, "sssaas");
        side.dueAt(side.alone("put X 0;put X 0;get X 0;fence;"), 4, "sssaaas");
        side.dueAt(side.alone("put X 0;get X 0;fence;"), 3, "ssaas");
        side.dueAt(side.alone("get X 0;put X 0;fence;"), 3, "ssas");
    }

    private static void waits(Side side) {
        Check.sentence("wait: only while that is empty");
        side.dueAt(side.alone("wait;"), 1, "s");
        side.dueAt(side.alone("wait;wait;"), 2, "ss");
        for (String wish : WISHES) {
            side.dueAt(side.alone(wish + "wait;"), 2, "sas");
            side.dueAt(side.alone(wish.repeat(2) + "wait;"), 3, "ssaas");
            side.dueAt(side.alone(wish.repeat(3) + "wait;"), 4, "sssaaas");
            side.dueBoth(side.beside("wait;", wish), 1, 1, side.host == 0 ? "so" : "os");
        }
    }

    private static void setAtOnce(Side side) {
        Check.sentence("set, load: at once");
        for (int w = 0; w < 2; w++) {
            for (int old = 0; old < 4; old++) {
                for (int v = 0; v < 4; v++) {
                    FarStore x = side.alone("set " + (side.own + w) + " " + v + ";");
                    x.word(side.own + w, old, 0);
                    Check.due("walk()", 2, x.walk());
                    Side.dueWordOnly(x, side.own + w, v, 1);
                    Side.dueWordOnly(x, side.own + 1 - w, 0, 1);
                    Side.dueWordOnly(x, side.far + w, 0, 1);
                }
            }
        }
        side.dueAt(side.alone("get X 0;set x 1;load y 1;"), 3, "sss");
    }

    private static void loadAtOnce(Side side) {
        Check.sentence("set, load: at once");
        for (int one = 0; one < 64; one++) {
            int ahead = one & 3;
            int v = one >> 2 & 3;
            int w = side.own + (one >> 4 & 1);
            int r = one >> 5;
            // The register is another word's value ahead of it.
            FarStore x = side.alone("load " + (2 * side.own + 1 - w) + " " + r + ";load " + w + " " + r + ";if " + r + " " + v
                + " 1;wait;if " + (1 - r) + " 0 1;wait;");
            x.word(2 * side.own + 1 - w, ahead, 0);
            x.word(w, v, 0);
            side.dueAt(x, 2, "ss");
            side.dueAt(x, 3, null);
            side.dueAt(x, 5, null);
            side.dueAt(x, 6, "ssss");
        }
    }

    private static void ifLeavesOut(Side side) {
        Check.sentence("if: N STATEMENTS behind it are left out if R is V");
        for (int n = 1; n < 7; n++) {
            FarStore x = side.alone("if 0 0 " + n + ";" + "wait;".repeat(6));
            for (int place = 1; place < 8; place++) {
                side.dueAt(x, place, place <= n ? null : "s".repeat(place - n));
            }
            FarStore later = side.alone("wait;if 1 0 " + n + ";" + "wait;".repeat(5));
            side.dueAt(later, 1, "s");
            side.dueAt(later, 2, null);
            side.dueAt(later, Math.min(2 + n, 7), "ss");
        }
    }

    private static void ifGoesOn(Side side) {
        Check.sentence("if: N STATEMENTS behind it are left out if R is V");
        for (int r = 0; r < 2; r++) {
            for (int has = 0; has < 4; has++) {
                for (int v = 0; v < 4; v++) {
                    FarStore x = side.alone("load x " + r + ";if " + r + " " + v + " 2;wait;wait;wait;");
                    x.word(side.own, has, 7);
                    side.dueAt(x, 2, v == has ? null : "ss");
                    side.dueAt(x, 3, v == has ? null : "sss");
                    side.dueAt(x, 4, v == has ? "ss" : "ssss");
                }
            }
        }
    }

    private static void ifAsFarAsThereAreAny(Side side) {
        Check.sentence("(as far as there are any)");
        for (int behind = 0; behind < 7; behind++) {
            for (int n = 1; n <= 7; n++) {
                FarStore x = side.alone("if 0 0 " + n + ";" + "wait;".repeat(behind));
                side.dueAt(x, 1 + Math.min(n, behind), "s");
                side.dueAt(x, 1 + behind, "s" + "s".repeat(Math.max(behind - n, 0)));
                Check.dueWalk(x, "an if", 2 + Math.max(behind - n, 0), 1, 1, 0, 1 + Math.max(behind - n, 0));
            }
        }
        FarStore last = side.alone("wait;".repeat(6) + "if 0 0 7;");
        side.dueAt(last, 7, "sssssss");
        Check.due("good ends", 1, last.ends(1));
    }

    private static void programsEnd(Side side) {
        Check.sentence("At its program's end it does nothing more.");
        for (int size = 0; size <= 7; size++) {
            FarStore x = side.alone("fence;".repeat(size));
            side.dueAt(x, size, "s".repeat(size));
            side.dueAt(x, size + 1, null);
            Check.dueWalk(x, size + " fences", size + 1, 1, 1, 0, size);
        }
        // Its wishes are done there all the same.
        Check.dueWalk(side.alone("put X 1;put X 1;put X 1;"), "three puts", 10, 1, 1, 0, 6);
    }

    private static void registersAtFirst(Side side) {
        Check.sentence("Each host has REGISTERS 0, 1 (0 .. 3, at first 0)");
        for (int r = 0; r < 2; r++) {
            for (int v = 0; v < 4; v++) {
                FarStore x = side.alone("if " + r + " " + v + " 1;wait;");
                side.dueAt(x, 1, v == 0 ? null : "s");
            }
        }
        FarStore x = side.alone("if 0 0 1;wait;load x 0;");
        x.word(side.own, 3, 7);
        Check.due("walk()", 3, x.walk());
        x.falls(false);
        Check.due("registers are 0 at the beginning of each walk", 3, x.walk());
        side.dueAt(x, 1, null);
    }

    private static void registersOfEachHost() {
        Check.sentence("Each host has REGISTERS 0, 1");
        for (Side side : Side.BOTH) {
            FarStore x = side.beside("load x 0;load x 1;", "if 0 0 1;wait;if 1 0 1;wait;");
            x.word(side.own, 3, 7);
            for (int place = 0; place < 3; place++) {
                side.dueBoth(x, place, 1, null);
                side.dueBoth(x, place, 3, null);
            }
        }
    }
}
