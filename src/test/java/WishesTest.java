/** The terms of part II: which wishes are done, what they do, the rights they need, and falls. */
public final class WishesTest {
    private static final String[] WISHES = {"put X 0;", "get X 0;", "swap X 0 0 0;", "add X 0 0;"};
    private static final int[] RIGHTS = {2, 1, 4, 4};
    /** Sees at its place 2 whether the first, or the second, of its own words is ever another than 0. */
    private static final String SEES_FIRST = "load x 0;if 0 0 1;wait;";
    private static final String SEES_SECOND = "load y 0;if 0 0 1;wait;";

    public static void main(String[] args) {
        for (Side side : Side.BOTH) {
            ordersOfTwo(side);
            ordersOfThree(side);
            passing(side);
            put(side);
            get(side);
            swap(side);
            add(side);
            rights(side);
            touchesNothing(side);
            noWishesAnyMore(side);
            brokenHostStops(side);
            otherHostGoesOn(side);
            ownWordsNeedNoRights(side);
            oneFall(side);
            fallenDoesNothing(side);
            othersQueueBreaks(side);
            ownWishesAreDone(side);
        }
        untoldFalls();
        Check.finish();
    }

    private static void ordersOfTwo(Side side) {
        Check.sentence("A WISH of a QUEUE is DONE: the first one; or one that isn't a get, if all ahead of it are gets.");
        for (int first = 0; first < 4; first++) {
            for (int second = 0; second < 4; second++) {
                FarStore x = side.alone(WISHES[first] + WISHES[second]);
                boolean passes = first == 1 && second != 1;
                Check.dueWalk(x, WISHES[first] + WISHES[second], passes ? 7 : 6, 1, 1, 0, 4);
            }
        }
    }

    /** Of wishes that change nothing a state is which have been made and which are left: counted by hand. */
    private static void ordersOfThree(Side side) {
        Check.sentence("or one that isn't a get, if all ahead of it are gets.");
        String[] orders = {"PPP", "GGG", "GPP", "PGP", "PPG", "GGP", "GPG", "PGG"};
        int[] states = {10, 10, 13, 11, 10, 12, 12, 10};
        for (int i = 0; i < orders.length; i++) {
            for (int sort : new int[] {0, 2, 3}) {
                String program = orders[i].replace("G", "get # 0;").replace("P", WISHES[sort]).replace('#', 'X');
                Check.dueWalk(side.alone(program), program, states[i], 1, 1, 0, 6);
            }
        }
    }

    /** The get sees what the wish behind it did: by which places it came to be done ahead. */
    private static void passing(Side side) {
        Check.sentence("or one that isn't a get, if all ahead of it are gets.");
        for (String wish : new String[] {"put X 1;", "swap X 0 1 1;", "add X 1 1;"}) {
            String sees = "wait;if 0 1 1;set x 1;";
            Check.dueOutcome(side.alone("get X 0;" + wish + sees), 0, 1 << side.own, side.row("ssbass"));
            Check.dueOutcome(side.alone("get Y 1;get X 0;" + wish + sees), 0, 1 << side.own, side.row("sssabass"));
            Check.dueOutcome(side.alone("get X 0;put Y 1;" + wish + sees), 0, 1 << side.own, side.row("sssbbass"));
            Check.dueOutcome(side.alone("get X 0;get Y 1;" + wish + sees), 0, 1 << side.own, side.row("ssscaass"));
            Check.dueOutcome(side.alone("put Y 0;get X 0;" + wish + sees), 0, 1 << side.own, side.row("sssabass"));
            Check.dueOutcome(side.alone("get X 0;fence;" + wish + sees), 0, 1 << side.own, null);
            Check.dueOutcome(side.alone(wish + "get X 0;" + sees), 1 << 2 * side.own, 1 << side.own, null);
        }
    }

    private static void put(Side side) {
        Check.sentence("put: the WORD becomes V");
        for (int w = 0; w < 2; w++) {
            for (int old = 0; old < 4; old++) {
                for (int v = 0; v < 4; v++) {
                    FarStore x = side.alone("put " + (side.far + w) + " " + v + ";");
                    x.word(side.far + w, old, 2);
                    Side.dueWordOnly(x, side.far + w, v, 2);
                    Side.dueWordOnly(x, side.far + 1 - w, 0, 2);
                    Side.dueWordOnly(x, side.own + w, 0, 2);
                }
            }
        }
    }

    private static void get(Side side) {
        Check.sentence("get: R becomes the WORD");
        for (int one = 0; one < 32; one++) {
            int old = one & 3;
            int r = one >> 4;
            FarStore x = seen(side, "get Y " + r + ";", r, old, one >> 2 & 3);
            x.word(side.far + 1, old, 1);
            dueSeen(side, x);
            Side.dueWordOnly(x, side.far + 1, old, 6);
        }
    }

    /** The wish with register r, which has a value ahead of it; ifs leave a wait out if r is as due behind it, the other 0. */
    private static FarStore seen(Side side, String wish, int r, int due, int ahead) {
        FarStore x = side.alone("load x " + r + ";" + wish + "wait;if " + r + " " + due + " 1;wait;if " + (1 - r) + " 0 1;wait;");
        x.word(side.own, ahead, 0);
        return x;
    }

    private static void dueSeen(Side side, FarStore x) {
        side.dueAt(x, 4, null);
        side.dueAt(x, 6, null);
        side.dueAt(x, 7, "ssasss");
    }

    private static void swap(Side side) {
        Check.sentence("swap: R becomes the WORD, then that V, if it was E");
        for (int one = 0; one < 512; one++) {
            int old = one & 3;
            int e = one >> 2 & 3;
            int v = one >> 4 & 3;
            int r = one >> 8;
            FarStore x = seen(side, "swap X " + e + " " + v + " " + r + ";", r, old, one >> 6 & 3);
            x.word(side.far, old, 4);
            dueSeen(side, x);
            Side.dueWordOnly(x, side.far, old == e ? v : old, 6);
            Side.dueWordOnly(x, side.far + 1, 0, 6);
        }
    }

    private static void add(Side side) {
        Check.sentence("add: R becomes the WORD, then that becomes it and V, modulo 4");
        for (int one = 0; one < 128; one++) {
            int old = one & 3;
            int v = one >> 2 & 3;
            int r = one >> 6;
            FarStore x = seen(side, "add Y " + v + " " + r + ";", r, old, one >> 4 & 3);
            x.word(side.far + 1, old, 4);
            dueSeen(side, x);
            Side.dueWordOnly(x, side.far + 1, (old + v) % 4, 6);
            // The sum's third bit must not come into a neighbour.
            Side.dueWordOnly(x, side.far, 0, 6);
            Side.dueWordOnly(x, side.own + 1, 0, 6);
        }
    }

    private static void rights(Side side) {
        Check.sentence("Without the RIGHT (get: get; put: put; swap, add: change)");
        for (int sort = 0; sort < 4; sort++) {
            for (int rights = 0; rights < 8; rights++) {
                FarStore x = side.alone(WISHES[sort] + "wait;");
                x.word(side.far, 0, rights);
                boolean has = (rights & RIGHTS[sort]) != 0;
                Check.dueWalk(x, WISHES[sort] + " with rights " + rights, has ? 4 : 3, 1, has ? 1 : 0, has ? 0 : 1, has ? 3 : 2);
                side.dueAt(x, 2, has ? "sas" : null);
                // The rights to other words are of no use, and of no harm.
                FarStore other = side.alone(WISHES[sort] + "wait;");
                other.word(side.far + 1, 0, rights);
                other.word(side.own, 0, rights);
                other.word(side.own + 1, 0, rights);
                side.dueAt(other, 2, "sas");
                other.word(side.far, 0, 7 - RIGHTS[sort]);
                side.dueAt(other, 2, null);
            }
        }
    }

    private static void touchesNothing(Side side) {
        Check.sentence("it touches nothing");
        String[] changes = {"put X 1;", "swap X 0 1 0;", "add X 1 0;"};
        for (int i = 0; i < changes.length; i++) {
            FarStore x = side.beside(changes[i], SEES_FIRST);
            side.dueBoth(x, 1, 2, "saoo");
            x.word(side.far, 0, i == 0 ? 5 : 3);
            side.dueBoth(x, 1, 2, null);
            side.dueBoth(x, 0, 2, null);
        }
    }

    private static void noWishesAnyMore(Side side) {
        Check.sentence("the QUEUE is BROKEN: it has no WISHES any more");
        FarStore x = side.beside("put X 1;put Y 1;", SEES_SECOND);
        x.word(side.far, 0, 5);
        side.dueBoth(x, 2, 2, null);
        // A put that passed the get is done: those that are left go.
        FarStore passed = side.beside("get X 0;put Y 1;", SEES_SECOND);
        passed.word(side.far, 0, 6);
        side.dueBoth(passed, 2, 2, "ssboo");
        // Beginning, 1 wish, 2, 3, and the broken ones of each of the last three; an end each.
        FarStore three = side.alone("put X 1;put X 1;put X 1;");
        three.word(side.far, 0, 5);
        Check.dueWalk(three, "broken with 1, 2 or 3 wishes", 7, 3, 0, 3, 4);
    }

    private static void brokenHostStops(Side side) {
        Check.sentence("the host does nothing more.");
        for (String next : new String[] {"fence;", "wait;"}) {
            FarStore x = side.alone("get X 0;" + next);
            x.word(side.far, 0, 6);
            side.dueAt(x, 1, "s");
            side.dueAt(x, 2, null);
        }
        for (String next : new String[] {"set x 0;", "load x 0;", "if 0 1 1;", "put Y 0;"}) {
            FarStore x = side.alone("put X 0;" + next);
            x.word(side.far, 0, 5);
            // Beginning, wish, next, and the broken ones of both.
            side.dueAt(x, 2, "ss");
            Check.dueWalk(x, next + " behind what breaks", 5, 2, 0, 2, 3);
        }
    }

    private static void otherHostGoesOn(Side side) {
        Check.sentence("the QUEUE is BROKEN: it has no WISHES any more, the host does nothing more.");
        FarStore x = side.beside("put X 1;wait;", "put X 1;wait;set x 1;");
        x.word(side.far, 0, 5);
        side.dueBoth(x, 1, 3, side.host == 0 ? "soAoo" : "osAoo");
        side.dueBoth(x, 2, 0, null);
        // 3 states of the one (broken the last), 5 of the other: each beside each.
        Check.dueWalk(x, "one broken", 15, 1, 0, 1, 6);
    }

    private static void ownWordsNeedNoRights(Side side) {
        Check.sentence("with RIGHTS for the other host: get 1, put 2, change 4, together (at first 7)");
        FarStore x = side.alone("set x 1;load x 1;if 1 1 1;wait;set y 2;");
        x.word(side.own, 0, 0);
        x.word(side.own + 1, 0, 0);
        side.dueAt(x, 5, "ssss");
        Side.dueWordOnly(x, side.own + 1, 2, 4);
        Check.due("ends(2)", 0, x.ends(2));
    }

    private static void untoldFalls() {
        Check.sentence("FALLS (if they are told to be)");
        FarStore x = Check.pair("put 2 0;", "");
        Check.dueWalk(x, "without falls", 3, 1, 1, 0, 2);
        x.falls(true);
        Check.dueWalk(x, "with falls", 10, 5, 1, 1, 3);
        x.falls(false);
        Check.dueWalk(x, "without falls again", 3, 1, 1, 0, 2);
    }

    private static void oneFall(Side side) {
        Check.sentence("either host may FALL, one of both, once");
        FarStore none = new FarStore();
        none.falls(true);
        // Nobody, host 0, host 1: never both.
        Check.dueWalk(none, "falls alone", 3, 3, 1, 0, 1);
        FarStore broken = side.alone("put X 1;");
        broken.word(side.far, 0, 0);
        broken.falls(true);
        // Beginning, wish, broken: each with nobody, host 0 or host 1 fallen; with it fallen, the wish breaks too.
        Check.dueWalk(broken, "a broken host may fall", 9, 4, 0, 3, 3);
    }

    private static void fallenDoesNothing(Side side) {
        Check.sentence("either host may FALL, one of both, once: it does nothing more");
        for (String one : new String[] {"set x 0;", "load x 0;", "fence;", "wait;", "if 0 0 1;", "if 0 1 1;"}) {
            FarStore x = side.alone(one);
            x.falls(true);
            // It stays where it was as it fell; it goes on if the other one did.
            Check.dueWalk(x, one + " and falls", 6, 4, 1, 0, 2);
        }
        for (String wish : WISHES) {
            FarStore x = side.alone(wish + "set x 0;");
            x.falls(true);
            // Nobody fell: 5. It fell: 5, 3 of them ends. The other one fell: 5, and broken at places 1 and 2, 3 ends.
            Check.dueWalk(x, wish + "set and falls", 17, 7, 1, 2, 4);
        }
    }

    private static void othersQueueBreaks(Side side) {
        Check.sentence("the other one's QUEUE is BROKEN as a WISH of it would be DONE");
        for (String wish : WISHES) {
            FarStore x = side.alone(wish);
            x.falls(true);
            // Beginning, wish, done: with nobody, host 0 or host 1 fallen; the wish to the fallen one breaks instead.
            Check.dueWalk(x, wish + " and falls", 10, 5, 1, 1, 3);
        }
        FarStore two = side.beside("put X 0;", "put X 0;");
        two.falls(true);
        // 9 with nobody fallen; with one fallen the other's wish breaks, and stays done if it was: 12 each.
        Check.dueWalk(two, "puts of both and falls", 33, 9, 1, 4, 5);
    }

    private static void ownWishesAreDone(Side side) {
        Check.sentence("its own QUEUE's WISHES may still be DONE");
        FarStore x = side.alone("put X 1;put X 1;put X 1;");
        x.falls(true);
        // Nobody fell: 10, an end. It fell: 10, ends with 0, 1, 2 and 3 puts made and all of them done. The other one fell:
        // 10, an end, and 5 broken ones: with 1 put made, none done; with 2 or 3 made, none or some done.
        Check.dueWalk(x, "three puts and falls", 35, 11, 1, 5, 7);
    }
}
