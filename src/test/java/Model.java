import java.util.ArrayList;
import java.util.HashMap;
import java.util.List;
import java.util.Map;

/** The document's words once more, as slow and plain as can be: what FarStore's walks are held against. */
final class Model {
    static final int PUT = 0;
    static final int GET = 1;
    static final int SWAP = 2;
    static final int ADD = 3;
    static final int FENCE = 4;
    static final int WAIT = 5;
    static final int SET = 6;
    static final int LOAD = 7;
    static final int IF = 8;

    /** A statement is {sort, numbers..}. */
    final int[][][] programs = {{}, {}};
    final int[] words = new int[4];
    final int[] rights = {7, 7, 7, 7};
    boolean falls;
    private int fenceHost = -1;
    private int fenceAt = -1;
    /** By its text, each state that can come; null if there are more than 12,000. */
    Map<String, State> states;

    static final class State {
        int[] words = new int[4];
        int[][] registers = new int[2][2];
        int[] places = new int[2];
        List<List<Integer>> queues = List.of(new ArrayList<>(), new ArrayList<>());
        boolean[] broken = new boolean[2];
        int fell = -1;
        // Whether the host has done the fence more that is ahead of the statement at which it is.
        boolean fencePassed;
        String row = "";
        boolean isEnd = true;

        State copy() {
            State other = new State();
            other.words = words.clone();
            other.registers = new int[][] {registers[0].clone(), registers[1].clone()};
            other.places = places.clone();
            other.queues = List.of(new ArrayList<>(queues.get(0)), new ArrayList<>(queues.get(1)));
            other.broken = broken.clone();
            other.fell = fell;
            other.fencePassed = fencePassed;
            return other;
        }

        String text() {
            StringBuilder text = new StringBuilder();
            for (int w : words) {
                text.append(w);
            }
            for (int host = 0; host < 2; host++) {
                text.append(' ').append(registers[host][0]).append(registers[host][1]).append(places[host]);
                text.append(queues.get(host)).append(broken[host]);
            }
            return text.append(fell).append(fencePassed).toString();
        }
    }

    private State statement(State old, int host) {
        int at = old.places[host];
        if (old.broken[host] || old.fell == host || at == programs[host].length) {
            return null;
        }
        State now = old.copy();
        List<Integer> queue = now.queues.get(host);
        if (host == fenceHost && at == fenceAt && !old.fencePassed) {
            now.fencePassed = true;
            return hasGet(host, queue) ? null : now;
        }
        int[] s = programs[host][at];
        int next = at + 1;
        if (s[0] <= ADD) {
            if (queue.size() == 3) {
                return null;
            }
            queue.add(at);
        } else if (s[0] == FENCE && hasGet(host, queue) || s[0] == WAIT && !queue.isEmpty()) {
            return null;
        } else if (s[0] == SET) {
            now.words[s[1]] = s[2];
        } else if (s[0] == LOAD) {
            now.registers[host][s[2]] = now.words[s[1]];
        } else if (s[0] == IF && now.registers[host][s[1]] == s[2]) {
            next = Math.min(next + s[3], programs[host].length);
        }
        now.places[host] = next;
        if (host == fenceHost) {
            now.fencePassed = false;
        }
        return now;
    }

    private boolean hasGet(int host, List<Integer> queue) {
        return queue.stream().anyMatch(i -> programs[host][i][0] == GET);
    }

    private State wish(State old, int host, int place) {
        List<Integer> queue = old.queues.get(host);
        if (place >= queue.size()) {
            return null;
        }
        int[] s = programs[host][queue.get(place)];
        boolean onlyGetsAhead = queue.subList(0, place).stream().allMatch(i -> programs[host][i][0] == GET);
        if (place != 0 && (s[0] == GET || !onlyGetsAhead)) {
            return null;
        }
        State now = old.copy();
        int right = s[0] == GET ? 1 : s[0] == PUT ? 2 : 4;
        if (old.fell == 1 - host || (rights[s[1]] & right) == 0) {
            now.queues.get(host).clear();
            now.broken[host] = true;
            return now;
        }
        now.queues.get(host).remove(place);
        int was = now.words[s[1]];
        if (s[0] == PUT) {
            now.words[s[1]] = s[2];
        } else if (s[0] == GET) {
            now.registers[host][s[2]] = was;
        } else if (s[0] == SWAP) {
            now.registers[host][s[4]] = was;
            now.words[s[1]] = was == s[2] ? s[3] : was;
        } else {
            now.registers[host][s[3]] = was;
            now.words[s[1]] = (was + s[2]) % 4;
        }
        return now;
    }

    private State fall(State old, int host) {
        if (!falls || old.fell != -1) {
            return null;
        }
        State now = old.copy();
        now.fell = host;
        return now;
    }

    private State after(State state, int step) {
        if (step < 2) {
            return statement(state, step);
        }
        if (step < 8) {
            return wish(state, (step - 2) / 3, (step - 2) % 3);
        }
        return fall(state, step - 8);
    }

    /** Level by level; of each state the least of all rows from the level ahead, in whatever order they are seen. */
    void walk() {
        State beginning = new State();
        beginning.words = words.clone();
        states = new HashMap<>();
        states.put(beginning.text(), beginning);
        Map<String, State> level = new HashMap<>(states);
        while (!level.isEmpty()) {
            Map<String, State> next = new HashMap<>();
            for (State state : level.values()) {
                for (int step = 9; step >= 0; step--) {
                    State now = after(state, step);
                    if (now == null) {
                        continue;
                    }
                    state.isEnd &= step >= 8;
                    String text = now.text();
                    now.row = state.row + step;
                    State known = next.get(text);
                    if (!states.containsKey(text) && (known == null || known.row.compareTo(now.row) > 0)) {
                        next.put(text, now);
                    }
                }
            }
            states.putAll(next);
            if (states.size() > 12000) {
                states = null;
                return;
            }
            level = next;
        }
    }

    boolean isGood(State s) {
        return s.isEnd && s.places[0] == programs[0].length && s.places[1] == programs[1].length
            && !s.broken[0] && !s.broken[1] && s.fell == -1;
    }

    int ends(int what) {
        int count = 0;
        for (State s : states.values()) {
            if (what == 3) {
                count = Math.max(count, s.row.length());
            } else if (s.isEnd && (what == 0 || what == 1 && isGood(s) || what == 2 && (s.broken[0] || s.broken[1]))) {
                count++;
            }
        }
        return count;
    }

    /** The least of the shortest rows to a state as told; null if there is none. */
    String row(boolean ends, int a, int b) {
        String best = null;
        for (State s : states.values()) {
            boolean isSo = ends ? isGood(s) && hasWords(s, a, b) : isAt(s, 0, a) && isAt(s, 1, b);
            if (isSo && (best == null || s.row.length() < best.length()
                || s.row.length() == best.length() && s.row.compareTo(best) < 0)) {
                best = s.row;
            }
        }
        return best;
    }

    private boolean isAt(State s, int host, int place) {
        boolean aheadOfFence = host == fenceHost && place == fenceAt && !s.fencePassed;
        return s.places[host] == place && !aheadOfFence;
    }

    private static boolean hasWords(State s, int values, int set) {
        for (int w = 0; w < 4; w++) {
            if ((set >> w & 1) == 1 && s.words[w] != (values >> 2 * w & 3)) {
                return false;
            }
        }
        return true;
    }

    int missing(boolean ends, int a, int b) {
        if (states == null) {
            return -2;
        }
        if (row(ends, a, b) == null) {
            return -1;
        }
        Map<String, State> plain = states;
        int answer = -1;
        for (int number = 0; number < 16 && answer == -1; number++) {
            fenceHost = number / 8;
            fenceAt = number % 8;
            if (programs[fenceHost].length == 7 || fenceAt >= programs[fenceHost].length) {
                continue;
            }
            walk();
            if (states == null) {
                answer = -2;
            } else if (row(ends, a, b) == null) {
                answer = number;
            }
        }
        fenceHost = -1;
        fenceAt = -1;
        states = plain;
        return answer;
    }
}
