import java.util.Arrays;

/**
 * A troupe that plays without a text: a canvas of steps, nights with free play between them, and
 * the least way to the next step. A set of masks or secrets is a number with a bit for each.
 */
public final class MaskHall {
    public static final int NONE = -1;
    public static final int TELL = 0, GIVE = 1, ENTER = 2, EXIT = 3, MEET = 4, TAKE = 5;
    public static final int NO_NIGHT = 0, PLAYS = 1, CLOSED = 2, LATE = 3;
    public static final int BLOCKED = 0, TAKEN = 1, DONE = 2;

    private static final int MASKS = 6;
    private static final int MASK_SETS = 64;
    private static final int SECRETS = 4;
    private static final int PROPS = 4;
    private static final int MAX_STEPS = 12;
    private static final int MAX_GAGS = 6;
    private static final int MAX_LENGTH = 20;
    private static final int MAX_WIT = 1000;
    private static final int MAX_POINTS = 100;
    private static final int MAX_LIGHT = 100;

    private final Canvas canvas;
    private final Lore atBeginning;
    private final Stage stage;
    private final Plot plot;
    private final ReckonedWay reckonedWay;
    private final TriedWay triedWay;
    private final Gags gags;
    private final int[] pointsOf;
    private int nightIs;
    private int light;
    private int minutes;
    private int moves;
    private int nextStep;
    private int allLaughs;
    private int nightsClosed;
    private int nightsLate;

    public MaskHall() {
        canvas = new Canvas();
        atBeginning = new Lore();
        stage = new Stage();
        plot = new Plot(canvas, stage);
        reckonedWay = new ReckonedWay(canvas, stage);
        triedWay = new TriedWay(canvas, stage);
        gags = new Gags();
        pointsOf = new int[MASKS];
        Arrays.fill(pointsOf, 1);
        nightIs = NO_NIGHT;
        nextStep = NONE;
    }

    // ---- before a night

    public boolean knows(int mask, int secret, boolean does) throws IndexOutOfBoundsException {
        needMask(mask);
        needSecret(secret);
        boolean did = atBeginning.isKnower(mask, secret);
        if (does) {
            atBeginning.learn(mask, secret);
        } else {
            atBeginning.forget(mask, secret);
        }
        return did;
    }

    public int has(int prop, int mask) throws IndexOutOfBoundsException {
        needProp(prop);
        if (mask != NONE) {
            needMask(mask);
        }
        int had = atBeginning.holders[prop];
        atBeginning.holders[prop] = mask;
        return had;
    }

    public int step(int kind, int a, int b, int what)
            throws IndexOutOfBoundsException, IllegalArgumentException, IllegalStateException {
        needMask(a);
        needMask(b);
        // A secret or a prop: there are as many of both.
        needSecret(what);
        needRange(kind, TELL, MEET);
        needUnlike(a, b);
        needNoPlay();
        if (canvas.size >= MAX_STEPS) {
            throw new IllegalStateException("the canvas has no room for another step");
        }
        canvas.add(kind, a, b, what);
        return canvas.size;
    }

    public int tear() throws IllegalStateException {
        needNoPlay();
        int steps = canvas.size;
        canvas.size = 0;
        return steps;
    }

    public boolean ill(int mask) throws IndexOutOfBoundsException {
        needMask(mask);
        stage.illMasks ^= 1 << mask;
        stage.onMasks &= ~stage.illMasks;
        return isIn(stage.illMasks, mask);
    }

    public boolean ban(int secret) throws IndexOutOfBoundsException {
        needSecret(secret);
        stage.bannedSecrets ^= 1 << secret;
        return isIn(stage.bannedSecrets, secret);
    }

    public void travel() throws IllegalStateException {
        needNoPlay();
        stage.bannedSecrets = 0;
        gags.beFresh();
    }

    public int gag(int length, int wit, int prop)
            throws IndexOutOfBoundsException, IllegalArgumentException, IllegalStateException {
        if (prop != NONE) {
            needProp(prop);
        }
        needRange(length, 1, MAX_LENGTH);
        needRange(wit, 0, MAX_WIT);
        if (gags.size >= MAX_GAGS) {
            throw new IllegalStateException("there is no room for another gag");
        }
        return gags.add(length, wit, prop);
    }

    public int points(int mask, int points)
            throws IndexOutOfBoundsException, IllegalArgumentException {
        needMask(mask);
        needRange(points, 0, MAX_POINTS);
        int before = pointsOf[mask];
        pointsOf[mask] = points;
        return before;
    }

    // ---- a night

    public void night(int light) throws IllegalArgumentException, IllegalStateException {
        needRange(light, 1, MAX_LIGHT);
        needNoPlay();
        if (canvas.size == 0) {
            throw new IllegalStateException("the canvas is empty");
        }
        this.light = light;
        minutes = 0;
        moves = 0;
        nextStep = 0;
        stage.onMasks = 0;
        stage.lore.copyFrom(atBeginning);
        nightIs = PLAYS;
    }

    public int enter(int mask) throws IndexOutOfBoundsException, IllegalStateException {
        needMask(mask);
        needPlay();
        if (isIn(stage.illMasks | stage.onMasks, mask)) {
            throw new IllegalStateException("the mask is ill, or on already");
        }
        boolean does = canvas.isJust(nextStep, ENTER, mask, NONE, NONE);
        stage.onMasks |= 1 << mask;
        return endMove(does);
    }

    public int exit(int mask) throws IndexOutOfBoundsException, IllegalStateException {
        needMask(mask);
        needPlay();
        needOn(mask);
        boolean does = canvas.isJust(nextStep, EXIT, mask, NONE, NONE);
        stage.onMasks &= ~(1 << mask);
        return endMove(does);
    }

    public int tell(int a, int b, int secret)
            throws IndexOutOfBoundsException, IllegalArgumentException, IllegalStateException {
        needMask(a);
        needMask(b);
        needSecret(secret);
        needUnlike(a, b);
        needPlay();
        needOn(a);
        needOn(b);
        if (!stage.lore.isKnower(a, secret) || isIn(stage.bannedSecrets, secret)) {
            throw new IllegalStateException("the mask does not know the secret, or it is banned");
        }
        boolean isNews = !stage.lore.isKnower(b, secret);
        boolean does = isNews && canvas.isJust(nextStep, TELL, a, b, secret);
        if (isNews && !does && wouldSpoil(b, secret)) {
            return BLOCKED;
        }
        stage.lore.learn(b, secret);
        return endMove(does);
    }

    public int give(int a, int b, int prop)
            throws IndexOutOfBoundsException, IllegalArgumentException, IllegalStateException {
        needMask(a);
        needMask(b);
        needProp(prop);
        needUnlike(a, b);
        needPlay();
        needOn(a);
        needOn(b);
        if (stage.lore.holders[prop] != a) {
            throw new IllegalStateException("the mask does not have the prop");
        }
        boolean does = canvas.isJust(nextStep, GIVE, a, b, prop);
        stage.lore.holders[prop] = b;
        return endMove(does);
    }

    public int take(int mask, int prop) throws IndexOutOfBoundsException, IllegalStateException {
        needMask(mask);
        needProp(prop);
        needPlay();
        needOn(mask);
        if (stage.lore.holders[prop] != NONE) {
            throw new IllegalStateException("somebody has the prop");
        }
        stage.lore.holders[prop] = mask;
        return endMove(false);
    }

    public int greet(int a, int b)
            throws IndexOutOfBoundsException, IllegalArgumentException, IllegalStateException {
        needMask(a);
        needMask(b);
        needUnlike(a, b);
        needPlay();
        needOn(a);
        needOn(b);
        return endMove(canvas.isJust(nextStep, MEET, a, b, NONE));
    }

    public int play(int gag, int mask) throws IndexOutOfBoundsException, IllegalStateException {
        if (gag < 0 || gag >= gags.size) {
            throw new IndexOutOfBoundsException("there is no such gag");
        }
        needMask(mask);
        needPlay();
        needOn(mask);
        int prop = gags.props[gag];
        if (prop != NONE && stage.lore.holders[prop] != mask) {
            throw new IllegalStateException("the mask does not have the prop of the gag");
        }
        int laughs = gags.laughsNow(gag);
        gags.timesPlayed[gag]++;
        allLaughs += laughs;
        passMinutes(Math.min(gags.lengths[gag], light - minutes));
        return laughs;
    }

    // ---- asking

    public int state() {
        return nightIs;
    }

    public int next() {
        return nextStep;
    }

    public boolean can() {
        return nightIs == PLAYS && plot.canBeClosed(nextStep);
    }

    public int way() {
        return can() ? reckonedWay.movesTo(nextStep) : NONE;
    }

    public int wayAnew() {
        return can() ? triedWay.movesTo(nextStep) : NONE;
    }

    public boolean isKnown(int mask, int secret) throws IndexOutOfBoundsException {
        needMask(mask);
        needSecret(secret);
        return loreToAsk().isKnower(mask, secret);
    }

    public int holder(int prop) throws IndexOutOfBoundsException {
        needProp(prop);
        return loreToAsk().holders[prop];
    }

    public int count(int what) throws IllegalArgumentException {
        switch (what) {
            case 0:
                return minutes;
            case 1:
                return allLaughs;
            case 2:
                return nightsClosed;
            case 3:
                return nightsLate;
            case 4:
                return stage.onMasks;
            case 5:
                return moves;
            default:
                throw new IllegalArgumentException("there is no such thing to count");
        }
    }

    public double share(int mask) throws IndexOutOfBoundsException {
        needMask(mask);
        int allPoints = 0;
        for (int i = 0; i < MASKS; i++) {
            allPoints += pointsOf[i];
        }
        if (allPoints == 0) {
            return 0.0;
        }
        return (double) allLaughs * (double) pointsOf[mask] / (double) allPoints;
    }

    // ---- what the calls have in common

    private static boolean isIn(int set, int member) {
        return (set >> member & 1) == 1;
    }

    private static void needMask(int mask) {
        if (mask < 0 || mask >= MASKS) {
            throw new IndexOutOfBoundsException("there is no such mask");
        }
    }

    private static void needSecret(int secret) {
        if (secret < 0 || secret >= SECRETS) {
            throw new IndexOutOfBoundsException("there is no such secret");
        }
    }

    private static void needProp(int prop) {
        if (prop < 0 || prop >= PROPS) {
            throw new IndexOutOfBoundsException("there is no such prop");
        }
    }

    private static void needRange(int value, int least, int most) {
        if (value < least || value > most) {
            throw new IllegalArgumentException("an argument is out of range");
        }
    }

    private static void needUnlike(int a, int b) {
        if (a == b) {
            throw new IllegalArgumentException("both masks are the same");
        }
    }

    private void needPlay() {
        if (nightIs != PLAYS) {
            throw new IllegalStateException("no night plays");
        }
    }

    private void needNoPlay() {
        if (nightIs == PLAYS) {
            throw new IllegalStateException("a night plays");
        }
    }

    private void needOn(int mask) {
        if (!isIn(stage.onMasks, mask)) {
            throw new IllegalStateException("the mask is not on");
        }
    }

    private Lore loreToAsk() {
        return nightIs == NO_NIGHT ? atBeginning : stage.lore;
    }

    /**
     * No other move than a telling can spoil the plot: who is on is well, so a prop that goes from
     * hand to hand stays with masks that are well, and all else does not count for the plot.
     */
    private boolean wouldSpoil(int mask, int secret) {
        if (!plot.canBeClosed(nextStep)) {
            return false;
        }
        stage.lore.learn(mask, secret);
        boolean still = plot.canBeClosed(nextStep);
        stage.lore.forget(mask, secret);
        return !still;
    }

    private int endMove(boolean doesStep) {
        moves++;
        if (doesStep) {
            nextStep++;
            if (nextStep >= canvas.size) {
                nightIs = CLOSED;
                nightsClosed++;
            }
        }
        passMinutes(1);
        return doesStep ? DONE : TAKEN;
    }

    private void passMinutes(int more) {
        minutes += more;
        if (nightIs == PLAYS && minutes >= light) {
            nightIs = LATE;
            nightsLate++;
        }
    }

    /** The steps in their order: step i is of kinds[i], by firsts[i] and seconds[i], of things[i]. */
    private static final class Canvas {
        final int[] kinds = new int[MAX_STEPS];
        final int[] firsts = new int[MAX_STEPS];
        final int[] seconds = new int[MAX_STEPS];
        final int[] things = new int[MAX_STEPS];
        int size;

        void add(int kind, int a, int b, int what) {
            if (size < MAX_STEPS) {
                kinds[size] = kind;
                firsts[size] = a;
                seconds[size] = b;
                things[size] = what;
                size++;
            }
        }

        boolean isJust(int step, int kind, int a, int b, int what) {
            if (step < 0 || step >= size || kinds[step] != kind) {
                return false;
            }
            boolean inOrder = firsts[step] == a && seconds[step] == b;
            switch (kind) {
                case ENTER:
                case EXIT:
                    return firsts[step] == a;
                case MEET:
                    return inOrder || firsts[step] == b && seconds[step] == a;
                default:
                    return inOrder && things[step] == what;
            }
        }

        /** The masks to which a step tells the secret, from that step on. */
        int listenersFrom(int step, int secret) {
            int listeners = 0;
            for (int i = Math.max(step, 0); i < size; i++) {
                if (kinds[i] == TELL && things[i] == secret) {
                    listeners |= 1 << seconds[i];
                }
            }
            return listeners;
        }
    }

    /** Who knows which secrets, as sets of masks, and who has which props. */
    private static final class Lore {
        final int[] knowers = new int[SECRETS];
        final int[] holders = new int[PROPS];

        Lore() {
            Arrays.fill(holders, NONE);
        }

        void copyFrom(Lore other) {
            System.arraycopy(other.knowers, 0, knowers, 0, SECRETS);
            System.arraycopy(other.holders, 0, holders, 0, PROPS);
        }

        boolean isKnower(int mask, int secret) {
            return isIn(knowers[secret], mask);
        }

        void learn(int mask, int secret) {
            knowers[secret] |= 1 << mask;
        }

        void forget(int mask, int secret) {
            knowers[secret] &= ~(1 << mask);
        }
    }

    /** Things as they are: who is on never is ill. */
    private static final class Stage {
        final Lore lore = new Lore();
        int onMasks;
        int illMasks;
        int bannedSecrets;
    }

    /** Whether the steps that are not done could be done in their order. */
    private static final class Plot {
        private final Canvas canvas;
        private final Stage stage;
        private final Lore byThen = new Lore();

        Plot(Canvas canvas, Stage stage) {
            this.canvas = canvas;
            this.stage = stage;
        }

        boolean canBeClosed(int firstStep) {
            byThen.copyFrom(stage.lore);
            for (int i = Math.max(firstStep, 0); i < canvas.size; i++) {
                if (!canBeDone(i)) {
                    return false;
                }
            }
            return true;
        }

        private boolean canBeDone(int step) {
            if (isIn(stage.illMasks, canvas.firsts[step])) {
                return false;
            }
            int kind = canvas.kinds[step];
            if (kind == ENTER || kind == EXIT) {
                return true;
            }
            if (isIn(stage.illMasks, canvas.seconds[step])) {
                return false;
            }
            if (kind == TELL) {
                return canBeTold(step);
            }
            return kind != GIVE || canBeGiven(step);
        }

        private boolean canBeTold(int step) {
            int a = canvas.firsts[step];
            int b = canvas.seconds[step];
            int secret = canvas.things[step];
            if (isIn(stage.bannedSecrets, secret) || byThen.isKnower(b, secret)) {
                return false;
            }
            if (!byThen.isKnower(a, secret) && !canHear(a, secret, step)) {
                return false;
            }
            byThen.learn(a, secret);
            byThen.learn(b, secret);
            return true;
        }

        /** Whether a can be told the secret just ahead of the step in which it has to tell it. */
        private boolean canHear(int a, int secret, int step) {
            int tellers = byThen.knowers[secret] & ~stage.illMasks;
            return tellers != 0 && !isIn(canvas.listenersFrom(step + 1, secret), a);
        }

        private boolean canBeGiven(int step) {
            int prop = canvas.things[step];
            int holder = byThen.holders[prop];
            if (holder != NONE && isIn(stage.illMasks, holder)) {
                return false;
            }
            byThen.holders[prop] = canvas.seconds[step];
            return true;
        }
    }

    /** The way to a step of a plot that can be closed, summed up from what is missing for it. */
    private static final class ReckonedWay {
        private final Canvas canvas;
        private final Stage stage;

        ReckonedWay(Canvas canvas, Stage stage) {
            this.canvas = canvas;
            this.stage = stage;
        }

        int movesTo(int step) {
            if (step < 0 || step >= canvas.size) {
                return NONE;
            }
            int a = canvas.firsts[step];
            int b = canvas.seconds[step];
            int what = canvas.things[step];
            switch (canvas.kinds[step]) {
                case ENTER:
                    return isIn(stage.onMasks, a) ? 2 : 1;
                case EXIT:
                    return isIn(stage.onMasks, a) ? 1 : 2;
                case TELL:
                    return toHaveOn(a) + toHaveOn(b) + toHear(a, what) + 1;
                case GIVE:
                    return toHaveOn(a) + toHaveOn(b) + toGet(a, b, what) + 1;
                default:
                    return toHaveOn(a) + toHaveOn(b) + 1;
            }
        }

        private int toHaveOn(int mask) {
            return isIn(stage.onMasks, mask) ? 0 : 1;
        }

        private int toHear(int a, int secret) {
            int knowers = stage.lore.knowers[secret];
            if (isIn(knowers, a)) {
                return 0;
            }
            return (knowers & stage.onMasks) != 0 ? 1 : 2;
        }

        private int toGet(int a, int b, int prop) {
            int holder = stage.lore.holders[prop];
            if (holder == a) {
                return 0;
            }
            // b comes on for the step anyway, and is not to be counted twice.
            if (holder == NONE || holder == b) {
                return 1;
            }
            return toHaveOn(holder) + 1;
        }
    }

    /**
     * The way to a step of a plot that can be closed, by trying all moves that matter for it: the
     * comings and goings, and what becomes of the one secret or prop of the step.
     */
    private static final class TriedWay {
        /** Far above the longest way, which has five moves. */
        private static final int MAX_MOVES = 64;
        private static final long EVERY_CASE = -1L;
        /** Entry m is the set of all cases of a secret in which mask m knows it. */
        private static final long[] KNOWN_TO = {
            0xAAAAAAAAAAAAAAAAL, 0xCCCCCCCCCCCCCCCCL, 0xF0F0F0F0F0F0F0F0L,
            0xFF00FF00FF00FF00L, 0xFFFF0000FFFF0000L, 0xFFFFFFFF00000000L
        };

        private final Canvas canvas;
        private final Stage stage;
        // For each set of masks that are on, the set of the cases reached with them on. A case of
        // a secret is the set of those who know it, a case of a prop is its holder plus one; so
        // all cases fit into the bits of a long, and moves are tried for many cases at once.
        private final long[] reached = new long[MASK_SETS];
        private final long[] before = new long[MASK_SETS];

        TriedWay(Canvas canvas, Stage stage) {
            this.canvas = canvas;
            this.stage = stage;
        }

        int movesTo(int step) {
            if (step < 0 || step >= canvas.size) {
                return NONE;
            }
            Arrays.fill(reached, 0L);
            reached[stage.onMasks & MASK_SETS - 1] = 1L << caseNow(step);
            for (int moves = 1; moves <= MAX_MOVES; moves++) {
                if (isInReach(step)) {
                    return moves;
                }
                tryOneMoreMove(step);
            }
            return NONE;
        }

        private int caseNow(int step) {
            int what = canvas.things[step];
            switch (canvas.kinds[step]) {
                case TELL:
                    return stage.lore.knowers[what];
                case GIVE:
                    return stage.lore.holders[what] + 1;
                default:
                    return 0;
            }
        }

        private boolean isInReach(int step) {
            for (int on = 0; on < MASK_SETS; on++) {
                if (reached[on] != 0L && (reached[on] & casesThatDo(step, on)) != 0L) {
                    return true;
                }
            }
            return false;
        }

        /** The cases in which the step itself can be the next move. */
        private long casesThatDo(int step, int on) {
            int a = canvas.firsts[step];
            int b = canvas.seconds[step];
            int kind = canvas.kinds[step];
            if (kind == ENTER) {
                return isIn(on, a) ? 0L : EVERY_CASE;
            }
            if (kind == EXIT) {
                return isIn(on, a) ? EVERY_CASE : 0L;
            }
            if (!isIn(on, a) || !isIn(on, b)) {
                return 0L;
            }
            if (kind == TELL) {
                return KNOWN_TO[a] & ~KNOWN_TO[b];
            }
            return kind == GIVE ? 1L << a + 1 : EVERY_CASE;
        }

        private void tryOneMoreMove(int step) {
            int kind = canvas.kinds[step];
            int barred = canvas.listenersFrom(step, canvas.things[step]);
            System.arraycopy(reached, 0, before, 0, MASK_SETS);
            for (int on = 0; on < MASK_SETS; on++) {
                if (before[on] != 0L) {
                    tryEntersAndExits(on);
                    if (kind == TELL) {
                        reached[on] |= casesAfterTelling(on, barred);
                    } else if (kind == GIVE) {
                        reached[on] |= casesAfterGiving(on);
                    }
                }
            }
        }

        private void tryEntersAndExits(int on) {
            for (int mask = 0; mask < MASKS; mask++) {
                if (!isIn(stage.illMasks, mask)) {
                    reached[on ^ 1 << mask] |= before[on];
                }
            }
        }

        private long casesAfterTelling(int on, int barred) {
            long cases = 0L;
            for (int a = 0; a < MASKS; a++) {
                for (int b = 0; b < MASKS; b++) {
                    if (isIn(on, a) && isIn(on & ~barred, b)) {
                        // The case with b among those who know it is as many bits further up.
                        cases |= (before[on] & KNOWN_TO[a] & ~KNOWN_TO[b]) << (1 << b);
                    }
                }
            }
            return cases;
        }

        private long casesAfterGiving(int on) {
            long inHandsOnStage = (long) on << 1;
            long lyingAbout = 1L;
            return (before[on] & (inHandsOnStage | lyingAbout)) != 0L ? inHandsOnStage : 0L;
        }
    }

    /** The gags: gag i has lengths[i], wits[i], and props[i] that it needs, or NONE. */
    private static final class Gags {
        final int[] lengths = new int[MAX_GAGS];
        final int[] wits = new int[MAX_GAGS];
        final int[] props = new int[MAX_GAGS];
        final int[] timesPlayed = new int[MAX_GAGS];
        int size;

        int add(int length, int wit, int prop) {
            if (size >= MAX_GAGS) {
                return NONE;
            }
            lengths[size] = length;
            wits[size] = wit;
            props[size] = prop;
            return size++;
        }

        void beFresh() {
            Arrays.fill(timesPlayed, 0);
        }

        int laughsNow(int gag) {
            // A shift by 32 would be one by 0 again.
            return wits[gag] >> Math.min(timesPlayed[gag], 31);
        }
    }
}
