import java.util.ArrayDeque;
import java.util.ArrayList;
import java.util.Arrays;
import java.util.HashMap;
import java.util.List;
import java.util.Map;

/**
 * The document once more, written plainly and slowly: every move is tried out on a copy of the
 * world, and ways are searched move by move. The tests hold MaskHall against it.
 */
final class Model {
    record Step(int kind, int a, int b, int what) { }

    record Gag(int length, int wit, int prop) { }

    /** What a move can change, but for minutes and counts. */
    static final class World {
        final boolean[] on = new boolean[6];
        final boolean[][] known = new boolean[6][4];
        final int[] holder = {-1, -1, -1, -1};
        int next;

        World copy() {
            World w = new World();
            System.arraycopy(on, 0, w.on, 0, 6);
            for (int m = 0; m < 6; m++) {
                System.arraycopy(known[m], 0, w.known[m], 0, 4);
            }
            System.arraycopy(holder, 0, w.holder, 0, 4);
            w.next = next;
            return w;
        }

        String key() {
            return Arrays.toString(on) + Arrays.deepToString(known) + Arrays.toString(holder) + next;
        }
    }

    final List<Step> steps = new ArrayList<>();
    final List<Gag> gags = new ArrayList<>();
    final Map<Integer, Integer> played = new HashMap<>();
    final World told = new World();
    World world;
    final boolean[] ill = new boolean[6];
    final boolean[] banned = new boolean[4];
    final int[] points = {1, 1, 1, 1, 1, 1};
    int state;
    int light;
    int minutes;
    int moves;
    int laughs;
    int closed;
    int late;

    // ---- before a night

    boolean knows(int mask, int secret, boolean does) {
        index(mask, 6);
        index(secret, 4);
        boolean did = told.known[mask][secret];
        told.known[mask][secret] = does;
        return did;
    }

    int has(int prop, int mask) {
        index(prop, 4);
        index(mask + 1, 7);
        int had = told.holder[prop];
        told.holder[prop] = mask;
        return had;
    }

    int step(int kind, int a, int b, int what) {
        index(a, 6);
        index(b, 6);
        index(what, 4);
        argument(kind >= 0 && kind <= 4 && a != b);
        possible(state != 1 && steps.size() < 12);
        steps.add(new Step(kind, a, b, what));
        return steps.size();
    }

    int tear() {
        possible(state != 1);
        int n = steps.size();
        steps.clear();
        return n;
    }

    boolean ill(int mask) {
        index(mask, 6);
        ill[mask] = !ill[mask];
        if (ill[mask] && world != null) {
            world.on[mask] = false;
        }
        return ill[mask];
    }

    boolean ban(int secret) {
        index(secret, 4);
        banned[secret] = !banned[secret];
        return banned[secret];
    }

    void travel() {
        possible(state != 1);
        Arrays.fill(banned, false);
        played.clear();
    }

    int gag(int length, int wit, int prop) {
        index(prop + 1, 5);
        argument(length >= 1 && length <= 20 && wit >= 0 && wit <= 1000);
        possible(gags.size() < 6);
        gags.add(new Gag(length, wit, prop));
        return gags.size() - 1;
    }

    int points(int mask, int p) {
        index(mask, 6);
        argument(p >= 0 && p <= 100);
        int before = points[mask];
        points[mask] = p;
        return before;
    }

    // ---- a night

    void night(int minutesOfLight) {
        argument(minutesOfLight >= 1 && minutesOfLight <= 100);
        possible(state != 1 && !steps.isEmpty());
        light = minutesOfLight;
        world = told.copy();
        state = 1;
        minutes = 0;
        moves = 0;
    }

    int enter(int mask) {
        index(mask, 6);
        return move(2, mask, -1, -1);
    }

    int exit(int mask) {
        index(mask, 6);
        return move(3, mask, -1, -1);
    }

    int tell(int a, int b, int secret) {
        index(a, 6);
        index(b, 6);
        index(secret, 4);
        argument(a != b);
        return move(0, a, b, secret);
    }

    int give(int a, int b, int prop) {
        index(a, 6);
        index(b, 6);
        index(prop, 4);
        argument(a != b);
        return move(1, a, b, prop);
    }

    int take(int mask, int prop) {
        index(mask, 6);
        index(prop, 4);
        return move(5, mask, -1, prop);
    }

    int greet(int a, int b) {
        index(a, 6);
        index(b, 6);
        argument(a != b);
        return move(4, a, b, -1);
    }

    int play(int gag, int mask) {
        index(gag, gags.size());
        index(mask, 6);
        Gag g = gags.get(gag);
        possible(state == 1 && world.on[mask]);
        possible(g.prop == -1 || world.holder[g.prop] == mask);
        int times = played.getOrDefault(gag, 0);
        played.put(gag, times + 1);
        int got = (int) Math.floor(g.wit / Math.pow(2, times));
        laughs += got;
        minutes = Math.min(light, minutes + g.length);
        endIfDark();
        return got;
    }

    // ---- asking

    int next() {
        return world == null ? -1 : world.next;
    }

    boolean can() {
        return state == 1 && can(world);
    }

    int way() {
        if (!can()) {
            return -1;
        }
        List<int[]> path = shortest(false, 9);
        return path == null ? -2 : path.size();
    }

    boolean isKnown(int mask, int secret) {
        index(mask, 6);
        index(secret, 4);
        return (world == null ? told : world).known[mask][secret];
    }

    int holder(int prop) {
        index(prop, 4);
        return (world == null ? told : world).holder[prop];
    }

    int count(int what) {
        argument(what >= 0 && what <= 5);
        int on = 0;
        for (int m = 0; m < 6 && world != null; m++) {
            on += world.on[m] ? 1 << m : 0;
        }
        return new int[] {minutes, laughs, closed, late, on, moves}[what];
    }

    double share(int mask) {
        index(mask, 6);
        int all = Arrays.stream(points).sum();
        return all == 0 ? 0 : (double) laughs * points[mask] / all;
    }

    // ---- moves

    private int move(int kind, int a, int b, int what) {
        possible(state == 1);
        World after = moved(world, kind, a, b, what);
        possible(after != null);
        if (can(world) && !can(after)) {
            return 0;
        }
        boolean done = after.next > world.next;
        world = after;
        moves++;
        minutes++;
        if (world.next == steps.size()) {
            state = 2;
            closed++;
        }
        endIfDark();
        return done ? 2 : 1;
    }

    private void endIfDark() {
        if (state == 1 && minutes == light) {
            state = 3;
            late++;
        }
    }

    /** The world after a move, be it blocked or not; null if there is no such move. */
    private World moved(World w, int kind, int a, int b, int what) {
        boolean two = kind == 0 || kind == 1 || kind == 4;
        if (ill[a] || two && ill[b] || w.on[a] == (kind == 2) || two && !w.on[b]) {
            return null;
        }
        World after = w.copy();
        Step s = steps.get(w.next);
        boolean same = s.kind == kind && s.a == a;
        switch (kind) {
            case 0 -> {
                if (!w.known[a][what] || banned[what]) {
                    return null;
                }
                same &= s.b == b && s.what == what && !w.known[b][what];
                after.known[b][what] = true;
            }
            case 1 -> {
                if (w.holder[what] != a) {
                    return null;
                }
                same &= s.b == b && s.what == what;
                after.holder[what] = b;
            }
            case 2 -> after.on[a] = true;
            case 3 -> after.on[a] = false;
            case 4 -> same = s.kind == 4 && (s.a == a && s.b == b || s.a == b && s.b == a);
            default -> {
                if (w.holder[what] != -1) {
                    return null;
                }
                after.holder[what] = a;
            }
        }
        after.next += same ? 1 : 0;
        return after;
    }

    // ---- the plot

    private boolean can(World w) {
        World by = w.copy();
        for (int i = w.next; i < steps.size(); i++) {
            Step s = steps.get(i);
            if (ill[s.a] || ill[s.b] && s.kind != 2 && s.kind != 3) {
                return false;
            }
            if (s.kind == 0) {
                if (banned[s.what] || by.known[s.b][s.what]) {
                    return false;
                }
                if (!by.known[s.a][s.what]) {
                    boolean heard = false;
                    for (int m = 0; m < 6; m++) {
                        heard |= by.known[m][s.what] && !ill[m];
                    }
                    for (Step later : steps.subList(i + 1, steps.size())) {
                        heard &= !(later.kind == 0 && later.b == s.a && later.what == s.what);
                    }
                    if (!heard) {
                        return false;
                    }
                    by.known[s.a][s.what] = true;
                }
                by.known[s.b][s.what] = true;
            } else if (s.kind == 1) {
                int has = by.holder[s.what];
                if (has != -1 && ill[has]) {
                    return false;
                }
                by.holder[s.what] = s.b;
            }
        }
        return true;
    }

    // ---- the way

    /**
     * A shortest row of moves that does the next step, or null if none has at most the given
     * length; of all moves, or of those alone that can matter to the step.
     */
    List<int[]> shortest(boolean ofAll, int longest) {
        record Node(World world, Node from, int[] move, int depth) { }
        Map<String, Boolean> seen = new HashMap<>();
        ArrayDeque<Node> queue = new ArrayDeque<>();
        queue.add(new Node(world, null, null, 0));
        seen.put(world.key(), true);
        List<int[]> all = allMoves(ofAll);
        while (!queue.isEmpty()) {
            Node node = queue.remove();
            if (node.depth == longest) {
                continue;
            }
            for (int[] m : all) {
                World after = moved(node.world, m[0], m[1], m[2], m[3]);
                if (after == null) {
                    continue;
                }
                if (after.next > world.next) {
                    ArrayList<int[]> path = new ArrayList<>();
                    path.add(m);
                    for (Node n = node; n.move != null; n = n.from) {
                        path.add(0, n.move);
                    }
                    return path;
                }
                if (!isBarred(m) && seen.put(after.key(), true) == null) {
                    queue.add(new Node(after, node, m, node.depth + 1));
                }
            }
        }
        return null;
    }

    private boolean isBarred(int[] m) {
        for (Step s : steps.subList(world.next, steps.size())) {
            if (m[0] == 0 && s.kind == 0 && s.b == m[2] && s.what == m[3]) {
                return true;
            }
        }
        return false;
    }

    private List<int[]> allMoves(boolean ofAll) {
        Step s = steps.get(world.next);
        List<int[]> all = new ArrayList<>();
        for (int a = 0; a < 6; a++) {
            all.add(new int[] {2, a, -1, -1});
            all.add(new int[] {3, a, -1, -1});
            for (int what = 0; what < 4; what++) {
                if (ofAll || s.kind == 1 && s.what == what) {
                    all.add(new int[] {5, a, -1, what});
                }
            }
            for (int b = 0; b < 6; b++) {
                if (a == b) {
                    continue;
                }
                if (ofAll || s.kind == 4) {
                    all.add(new int[] {4, a, b, -1});
                }
                for (int what = 0; what < 4; what++) {
                    for (int kind = 0; kind < 2; kind++) {
                        if (ofAll || s.kind == kind && s.what == what) {
                            all.add(new int[] {kind, a, b, what});
                        }
                    }
                }
            }
        }
        return all;
    }

    // ---- exceptions

    private static void index(int i, int end) {
        if (i < 0 || i >= end) {
            throw new IndexOutOfBoundsException();
        }
    }

    private static void argument(boolean fine) {
        if (!fine) {
            throw new IllegalArgumentException();
        }
    }

    private static void possible(boolean fine) {
        if (!fine) {
            throw new IllegalStateException();
        }
    }
}
