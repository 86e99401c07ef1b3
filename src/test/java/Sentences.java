import java.util.List;
import java.util.function.IntConsumer;

/** Tests that each bear the words of the document which they hold the program to. */
abstract class Sentences {
    static final Class<?> INDEX = IndexOutOfBoundsException.class;
    static final Class<?> ARGUMENT = IllegalArgumentException.class;
    static final Class<?> STATE = IllegalStateException.class;

    private final Report report;
    private String section = "";

    Sentences(Report report) {
        this.report = report;
    }

    abstract void run();

    // ---- tests and checks

    /** The tests that follow quote this section of the document. */
    final void in(String heading) {
        section = heading;
    }

    final void test(String words, String edge, Runnable body) {
        report.begin(section, words, edge);
        try {
            body.run();
        } catch (RuntimeException e) {
            report.isWrong("threw " + e);
        }
    }

    final void due(Object want, Object got) {
        report.check(want, got);
    }

    /** The call must throw just that class: one below it would be thrown by the machine. */
    final void refuses(Class<?> why, Runnable call) {
        Object got = "no exception";
        try {
            call.run();
        } catch (RuntimeException e) {
            got = e.getClass();
        }
        report.check(why, got);
    }

    /**
     * The call must take all values from least to most, and none beside them. What it does ahead of
     * the call that is tested must not throw for those beside them, or it would hide that call.
     */
    final void bounds(Class<?> why, int least, int most, IntConsumer call) {
        for (int value = least; value <= most; value++) {
            call.accept(value);
        }
        for (int value : new int[] {least - 1, most + 1, Integer.MIN_VALUE, Integer.MAX_VALUE}) {
            refuses(why, () -> call.accept(value));
        }
    }

    // ---- steps

    static int[] tells(int a, int b, int secret) {
        return new int[] {MaskHall.TELL, a, b, secret};
    }

    static int[] gives(int a, int b, int prop) {
        return new int[] {MaskHall.GIVE, a, b, prop};
    }

    static int[] enters(int a) {
        return new int[] {MaskHall.ENTER, a, other(a), 0};
    }

    static int[] exits(int a) {
        return new int[] {MaskHall.EXIT, a, other(a), 0};
    }

    static int[] meets(int a, int b) {
        return new int[] {MaskHall.MEET, a, b, 0};
    }

    /** Another mask than that one. */
    static int other(int mask) {
        return mask == 0 ? 1 : 0;
    }

    // ---- halls

    /** A hall with this canvas; no night has begun. */
    static MaskHall told(int[]... steps) {
        MaskHall x = new MaskHall();
        for (int[] s : steps) {
            x.step(s[0], s[1], s[2], s[3]);
        }
        return x;
    }

    /** A night with this canvas: nobody knows or has anything. */
    static MaskHall begun(int light, int[]... steps) {
        MaskHall x = told(steps);
        x.night(light);
        return x;
    }

    /** A night with this canvas, in which 0 knows secret 0. */
    static MaskHall zeroKnows(int light, int[]... steps) {
        MaskHall x = told(steps);
        x.knows(0, 0, true);
        x.night(light);
        return x;
    }

    /** A night with this canvas, in which that mask has prop 0. */
    static MaskHall propIsWith(int holder, int light, int[]... steps) {
        MaskHall x = told(steps);
        x.has(0, holder);
        x.night(light);
        return x;
    }

    static void come(MaskHall x, int... masks) {
        for (int mask : masks) {
            x.enter(mask);
        }
    }

    /** All are on; that mask knows all secrets and has all props; no move of 0 to 3 does the step. */
    static MaskHall allOn(int richMask) {
        MaskHall x = told(exits(5));
        for (int i = 0; i < 4; i++) {
            x.knows(richMask, i, true);
            x.has(i, richMask);
        }
        x.night(50);
        come(x, 0, 1, 2, 3, 4, 5);
        return x;
    }

    /**
     * A hall whose night is what is told. 0 and 1 are on (if there was a night), 0 knows secret 0 and
     * has prop 0, the other props lie about, and gag 0 needs none and takes a minute: so a move of 0
     * and 1 fails only if no night PLAYS.
     */
    static MaskHall troupe(int night) {
        MaskHall x = told(enters(0), enters(1));
        x.knows(0, 0, true);
        x.has(0, 0);
        x.gag(1, 8, MaskHall.NONE);
        if (night != MaskHall.CLOSED) {
            x.step(MaskHall.MEET, 4, 5, 0);
        }
        if (night != MaskHall.NO_NIGHT) {
            x.night(night == MaskHall.LATE ? 2 : 50);
            come(x, 0, 1);
        }
        return x;
    }

    /** Ahead of the first night, after one that was CLOSED, and after one that was LATE. */
    static List<MaskHall> notPlaying() {
        return List.of(troupe(MaskHall.NO_NIGHT), troupe(MaskHall.CLOSED), troupe(MaskHall.LATE));
    }

    /** Twelve steps and six gags; the steps are exits of 0. */
    static MaskHall full() {
        MaskHall x = new MaskHall();
        for (int i = 0; i < 12; i++) {
            x.step(MaskHall.EXIT, 0, 1, 0);
        }
        for (int i = 0; i < 6; i++) {
            x.gag(1, 1, MaskHall.NONE);
        }
        return x;
    }
}
