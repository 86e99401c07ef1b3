import java.util.function.Supplier;

/** Finds out all that a hall holds, also what cannot be asked for, by calls that use the hall up. */
final class Probe {
    /** The first steps of the canvas in all halls that are probed. */
    private static final int[][] STEPS = {{0, 0, 1, 0}, {1, 2, 1, 0}, {2, 3, 0, 1}, {4, 1, 0, 2}, {0, 0, 3, 0}, {3, 1, 0, 3}};

    private final MaskHall hall;
    private final StringBuilder found = new StringBuilder();

    private Probe(MaskHall hall) {
        this.hall = hall;
    }

    /** A hall of which much was told, with the canvas that is probed; 5 is in no step. */
    static MaskHall told() {
        MaskHall x = new MaskHall();
        x.knows(0, 0, true);
        x.knows(1, 1, true);
        x.has(0, 2);
        x.has(1, 3);
        x.gag(2, 100, MaskHall.NONE);
        x.gag(3, 50, 1);
        x.points(0, 3);
        x.ill(4);
        x.ban(2);
        for (int[] s : STEPS) {
            x.step(s[0], s[1], s[2], s[3]);
        }
        return x;
    }

    /** Some 300 calls; two halls that hold the same answer the same. */
    static String everything(MaskHall hall) {
        Probe probe = new Probe(hall);
        probe.askAll();
        // The last step is left out, so that the night goes on until its light has gone.
        probe.playSteps(0, STEPS.length - 1);
        probe.playGags();
        probe.useUpTheLight();
        probe.askAll();
        probe.add("night", () -> {
            hall.night(60);
            return "begins";
        });
        probe.playSteps(0, STEPS.length - 1);
        probe.playGags();
        probe.playSteps(STEPS.length - 1, STEPS.length);
        probe.add("state", hall::state);
        probe.add("next", hall::next);
        probe.useUpTheLight();
        probe.tellAllAnew();
        return probe.found.toString();
    }

    private void add(String call, Supplier<Object> answer) {
        Object got;
        try {
            got = answer.get();
        } catch (IndexOutOfBoundsException | IllegalArgumentException | IllegalStateException e) {
            got = e.getClass().getSimpleName();
        }
        found.append(call).append(' ').append(got).append('\n');
    }

    private void askAll() {
        add("state", hall::state);
        add("next", hall::next);
        add("can", hall::can);
        add("way", hall::way);
        add("wayAnew", hall::wayAnew);
        for (int i = 0; i < 6; i++) {
            int mask = i;
            for (int s = 0; s < 4; s++) {
                int secret = s;
                add("isKnown", () -> hall.isKnown(mask, secret));
            }
            add("count", () -> hall.count(mask));
            add("share", () -> hall.share(mask));
        }
        for (int p = 0; p < 4; p++) {
            int prop = p;
            add("holder", () -> hall.holder(prop));
        }
    }

    private void playSteps(int first, int end) {
        for (int i = first; i < end; i++) {
            int[] s = STEPS[i];
            if (s[0] == MaskHall.ENTER) {
                add("exit", () -> hall.exit(s[1]));
            } else if (s[0] != MaskHall.EXIT) {
                add("enter", () -> hall.enter(s[2]));
            }
            add("enter", () -> hall.enter(s[1]));
            switch (s[0]) {
                case MaskHall.TELL -> add("tell", () -> hall.tell(s[1], s[2], s[3]));
                case MaskHall.GIVE -> add("give", () -> hall.give(s[1], s[2], s[3]));
                case MaskHall.EXIT -> add("exit", () -> hall.exit(s[1]));
                case MaskHall.MEET -> add("greet", () -> hall.greet(s[1], s[2]));
                default -> add("next", hall::next);
            }
        }
    }

    /** 3 is on by then, and has what the second gag needs. */
    private void playGags() {
        for (int g = 0; g < 6; g++) {
            int gag = g;
            add("play", () -> hall.play(gag, 3));
        }
    }

    /** The minutes that are left show by how often a mask can come and go. */
    private void useUpTheLight() {
        int moves = 0;
        boolean isOn = (hall.count(4) >> 5 & 1) == 1;
        while (hall.state() == MaskHall.PLAYS && moves < 60) {
            moves++;
            if (isOn) {
                add("exit", () -> hall.exit(5));
            } else {
                add("enter", () -> hall.enter(5));
            }
            isOn = !isOn;
        }
        found.append(moves).append(" moves left\n");
    }

    private void tellAllAnew() {
        for (int i = 0; i < 6; i++) {
            int mask = i;
            for (int s = 0; s < 4; s++) {
                int secret = s;
                add("knows", () -> hall.knows(mask, secret, false));
            }
            add("points", () -> hall.points(mask, 1));
            add("ill", () -> hall.ill(mask));
        }
        for (int i = 0; i < 4; i++) {
            int thing = i;
            add("has", () -> hall.has(thing, MaskHall.NONE));
            add("ban", () -> hall.ban(thing));
        }
        for (int i = 0; i < 7; i++) {
            add("gag", () -> hall.gag(1, 1, MaskHall.NONE));
        }
        add("tear", hall::tear);
    }
}
