import java.util.ArrayDeque;
import java.util.Arrays;
import java.util.BitSet;

/**
 * Whether a plot of tellings can be closed, by trying all tellings there are until the last step is
 * done, and not by the rules that the document and the Model have for it: so can() and BLOCKED are
 * held to what they mean, "if all steps that are not done could be done in their order, with free
 * moves between".
 */
public final class ClosingByMovesTest {
    private static final int MOST_TELLINGS = 25;

    private long seed = 20261120L;
    private int secrets;
    private int[][] steps; // a, b, secret
    private int illMasks;
    private int bannedSecrets;
    private MaskHall hall;
    private int known; // bit 6 * secret + mask
    private int next;
    private final int[] plots = new int[2];
    private final int[] outcomes = new int[3];

    public static void main(String[] args) {
        ClosingByMovesTest test = new ClosingByMovesTest();
        for (int i = 0; i < 10000; i++) {
            test.tryCanvas(1);
        }
        for (int i = 0; i < 400; i++) {
            test.tryCanvas(2);
        }
        test.report();
    }

    private void report() {
        System.out.println("plots not to be closed " + plots[0] + ", to be closed " + plots[1]
                + "; tellings blocked " + outcomes[0] + ", taken " + outcomes[1] + ", done " + outcomes[2]);
        boolean enough = true;
        for (int[] seen : new int[][] {plots, outcomes}) {
            for (int n : seen) {
                enough &= n >= 500;
            }
        }
        if (!enough) {
            System.exit(1);
        }
    }

    private void tryCanvas(int secretsInIt) {
        secrets = secretsInIt;
        prepare();
        boolean canBeClosed = closes(known, next);
        plots[canBeClosed ? 1 : 0]++;
        need(canBeClosed, hall.can());
        for (int i = 0; i < MOST_TELLINGS && hall.state() == MaskHall.PLAYS; i++) {
            tryTelling(canBeClosed);
            canBeClosed = hall.state() == MaskHall.PLAYS && closes(known, next);
            need(canBeClosed, hall.can());
        }
    }

    /** All who are well are on, so that tellings are all that is to be tried. */
    private void prepare() {
        hall = new MaskHall();
        known = 0;
        next = 0;
        illMasks = below(3) == 0 ? 1 << below(6) : 0;
        bannedSecrets = below(20) == 0 ? 1 << below(secrets) : 0;
        steps = new int[1 + below(5)][];
        for (int i = 0; i < steps.length; i++) {
            int a = below(6);
            steps[i] = new int[] {a, (a + 1 + below(5)) % 6, below(secrets)};
            hall.step(MaskHall.TELL, steps[i][0], steps[i][1], steps[i][2]);
        }
        for (int secret = 0; secret < secrets; secret++) {
            if (below(2) == 0) {
                know(steps[0][0], secret);
            }
            if (below(2) == 0) {
                know(below(6), secret);
            }
            if ((bannedSecrets >> secret & 1) == 1) {
                hall.ban(secret);
            }
        }
        hall.night(100);
        for (int mask = 0; mask < 6; mask++) {
            if ((illMasks >> mask & 1) == 1) {
                hall.ill(mask);
            } else {
                hall.enter(mask);
            }
        }
    }

    private void know(int mask, int secret) {
        hall.knows(mask, secret, true);
        known |= 1 << 6 * secret + mask;
    }

    private void tryTelling(boolean couldBeClosed) {
        int a = below(6);
        int b = (a + 1 + below(5)) % 6;
        int secret = below(secrets);
        if (below(2) == 0) {
            // What a step is to tell is what may be blocked, if it comes too early.
            int[] s = steps[next + below(steps.length - next)];
            a = s[0] != a && s[1] != a && below(2) == 0 ? a : s[0];
            b = s[1];
            secret = s[2];
        }
        if (!canTell(known, a, b, secret)) {
            return;
        }
        int after = known | 1 << 6 * secret + b;
        boolean does = isStep(known, next, a, b, secret);
        boolean isBlocked = couldBeClosed && !closes(after, does ? next + 1 : next);
        int got = hall.tell(a, b, secret);
        need(isBlocked ? MaskHall.BLOCKED : does ? MaskHall.DONE : MaskHall.TAKEN, got);
        outcomes[got]++;
        if (!isBlocked) {
            known = after;
            next += does ? 1 : 0;
        }
    }

    // ---- all tellings there are

    private boolean closes(int knownNow, int nextNow) {
        BitSet seen = new BitSet();
        ArrayDeque<Integer> open = new ArrayDeque<>();
        open.add(nextNow << 12 | knownNow);
        while (!open.isEmpty()) {
            int at = open.remove();
            int knownThen = at & 0xFFF;
            int nextThen = at >> 12;
            if (nextThen == steps.length) {
                return true;
            }
            for (int i = 0; i < 36 * secrets; i++) {
                int a = i % 6;
                int b = i / 6 % 6;
                int secret = i / 36;
                if (a != b && canTell(knownThen, a, b, secret)) {
                    int nextAfter = isStep(knownThen, nextThen, a, b, secret) ? nextThen + 1 : nextThen;
                    int after = nextAfter << 12 | knownThen | 1 << 6 * secret + b;
                    if (!seen.get(after)) {
                        seen.set(after);
                        open.add(after);
                    }
                }
            }
        }
        return false;
    }

    private boolean canTell(int knownThen, int a, int b, int secret) {
        boolean areWell = (illMasks & (1 << a | 1 << b)) == 0;
        return areWell && (knownThen >> 6 * secret + a & 1) == 1 && (bannedSecrets >> secret & 1) == 0;
    }

    private boolean isStep(int knownThen, int nextThen, int a, int b, int secret) {
        int[] s = steps[nextThen];
        return s[0] == a && s[1] == b && s[2] == secret && (knownThen >> 6 * secret + b & 1) == 0;
    }

    private void need(Object want, Object got) {
        if (!want.equals(got)) {
            System.out.println("step " + next + " of " + Arrays.deepToString(steps) + ", known "
                    + Integer.toBinaryString(known) + ", ill " + illMasks + ": got " + got + ", due " + want);
            System.exit(1);
        }
    }

    private int below(int end) {
        seed = seed * 6364136223846793005L + 1442695040888963407L;
        return (int) ((seed >>> 33) % end);
    }
}
