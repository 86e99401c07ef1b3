import java.util.function.Consumer;
import java.util.function.Supplier;

/** "A call that throws an exception changes nothing.", for each call and each thing that refuses it. */
final class RefusedCallSentences extends Sentences {
    private String scene;
    private Supplier<MaskHall> make;
    private String unspoilt;

    RefusedCallSentences(Report report) {
        super(report);
    }

    @Override
    void run() {
        in("The way");
        scene("a new object", MaskHall::new);
        wrongArguments();
        nightsThatDoNotPlay();
        refused(STATE, "night(5), the canvas is empty", x -> x.night(5));

        scene("ahead of the first night", Probe::told);
        wrongArguments();
        nightsThatDoNotPlay();
        refused(STATE, "play(0, 0)", x -> x.play(0, 0));

        scene("twelve steps, six gags", RefusedCallSentences::fullHall);
        wrongArguments();
        refused(STATE, "step(0, 0, 1, 0), the thirteenth", x -> x.step(0, 0, 1, 0));
        refused(STATE, "gag(1, 1, -1), the seventh", x -> x.gag(1, 1, -1));

        scene("a night PLAYS", RefusedCallSentences::playing);
        wrongArguments();
        notWhileANightPlays();
        notWithTheseMasks();

        scene("the night is CLOSED", RefusedCallSentences::closed);
        wrongArguments();
        nightsThatDoNotPlay();
        refused(STATE, "play(0, 3)", x -> x.play(0, 3));

        scene("the night is LATE", RefusedCallSentences::late);
        wrongArguments();
        nightsThatDoNotPlay();
        refused(STATE, "play(0, 0)", x -> x.play(0, 0));
    }

    private void scene(String name, Supplier<MaskHall> hall) {
        scene = name;
        make = hall;
        unspoilt = Probe.everything(hall.get());
    }

    private void refused(Class<?> why, String call, Consumer<MaskHall> on) {
        test("A call that throws an exception changes nothing.", scene + ": " + call, () -> {
            // Once alone: a second call could undo what the first one changed.
            MaskHall x = make.get();
            refuses(why, () -> on.accept(x));
            due(unspoilt, Probe.everything(x));
        });
    }

    // ---- what refuses a call

    private void wrongArguments() {
        // 1 << 32 is 1 << 0: as a place in a set, 32 would wrap around to the first one.
        for (int mask : new int[] {-1, 6, 32}) {
            wrongMask(mask);
        }
        for (int thing : new int[] {-1, 4, 32}) {
            wrongSecretOrProp(thing);
        }
        for (int prop : new int[] {-2, 4}) {
            refused(INDEX, "gag(1, 1, " + prop + ")", x -> x.gag(1, 1, prop));
        }
        for (int gag : new int[] {-1, 6}) {
            refused(INDEX, "play(" + gag + ", 0)", x -> x.play(gag, 0));
        }
        refused(INDEX, "has(0, -2)", x -> x.has(0, -2));
        refused(INDEX, "has(0, 6)", x -> x.has(0, 6));
        outOfRange();
        sameMasks();
    }

    private void wrongMask(int m) {
        refused(INDEX, "knows(" + m + ", 0, true)", x -> x.knows(m, 0, true));
        refused(INDEX, "knows(" + m + ", 0, false)", x -> x.knows(m, 0, false));
        refused(INDEX, "step(0, " + m + ", 1, 0)", x -> x.step(0, m, 1, 0));
        refused(INDEX, "step(2, 1, " + m + ", 0)", x -> x.step(2, 1, m, 0));
        refused(INDEX, "ill(" + m + ")", x -> x.ill(m));
        refused(INDEX, "points(" + m + ", 5)", x -> x.points(m, 5));
        refused(INDEX, "enter(" + m + ")", x -> x.enter(m));
        refused(INDEX, "exit(" + m + ")", x -> x.exit(m));
        refused(INDEX, "tell(" + m + ", 1, 0)", x -> x.tell(m, 1, 0));
        refused(INDEX, "tell(0, " + m + ", 0)", x -> x.tell(0, m, 0));
        refused(INDEX, "give(" + m + ", 1, 0)", x -> x.give(m, 1, 0));
        refused(INDEX, "give(2, " + m + ", 0)", x -> x.give(2, m, 0));
        refused(INDEX, "take(" + m + ", 2)", x -> x.take(m, 2));
        refused(INDEX, "greet(" + m + ", 1)", x -> x.greet(m, 1));
        refused(INDEX, "greet(1, " + m + ")", x -> x.greet(1, m));
        refused(INDEX, "play(0, " + m + ")", x -> x.play(0, m));
        refused(INDEX, "isKnown(" + m + ", 0)", x -> x.isKnown(m, 0));
        refused(INDEX, "share(" + m + ")", x -> x.share(m));
    }

    private void wrongSecretOrProp(int thing) {
        refused(INDEX, "knows(0, " + thing + ", true)", x -> x.knows(0, thing, true));
        refused(INDEX, "knows(0, " + thing + ", false)", x -> x.knows(0, thing, false));
        refused(INDEX, "step(0, 0, 1, " + thing + ")", x -> x.step(0, 0, 1, thing));
        refused(INDEX, "step(4, 0, 1, " + thing + ")", x -> x.step(4, 0, 1, thing));
        refused(INDEX, "ban(" + thing + ")", x -> x.ban(thing));
        refused(INDEX, "tell(0, 1, " + thing + ")", x -> x.tell(0, 1, thing));
        refused(INDEX, "isKnown(0, " + thing + ")", x -> x.isKnown(0, thing));
        refused(INDEX, "has(" + thing + ", 0)", x -> x.has(thing, 0));
        refused(INDEX, "give(2, 1, " + thing + ")", x -> x.give(2, 1, thing));
        refused(INDEX, "take(0, " + thing + ")", x -> x.take(0, thing));
        refused(INDEX, "holder(" + thing + ")", x -> x.holder(thing));
    }

    private void outOfRange() {
        for (int kind : new int[] {-1, 5}) {
            refused(ARGUMENT, "step(" + kind + ", 0, 1, 0)", x -> x.step(kind, 0, 1, 0));
        }
        for (int length : new int[] {0, 21}) {
            refused(ARGUMENT, "gag(" + length + ", 1, -1)", x -> x.gag(length, 1, -1));
        }
        for (int wit : new int[] {-1, 1001}) {
            refused(ARGUMENT, "gag(1, " + wit + ", -1)", x -> x.gag(1, wit, -1));
        }
        for (int points : new int[] {-1, 101}) {
            refused(ARGUMENT, "points(0, " + points + ")", x -> x.points(0, points));
        }
        for (int light : new int[] {0, 101}) {
            refused(ARGUMENT, "night(" + light + ")", x -> x.night(light));
        }
        for (int what : new int[] {-1, 6}) {
            refused(ARGUMENT, "count(" + what + ")", x -> x.count(what));
        }
    }

    private void sameMasks() {
        for (int kind = MaskHall.TELL; kind <= MaskHall.MEET; kind++) {
            int k = kind;
            refused(ARGUMENT, "step(" + k + ", 2, 2, 0)", x -> x.step(k, 2, 2, 0));
        }
        refused(ARGUMENT, "tell(0, 0, 0)", x -> x.tell(0, 0, 0));
        refused(ARGUMENT, "give(2, 2, 0)", x -> x.give(2, 2, 0));
        refused(ARGUMENT, "greet(1, 1)", x -> x.greet(1, 1));
    }

    private void nightsThatDoNotPlay() {
        refused(STATE, "enter(5)", x -> x.enter(5));
        refused(STATE, "exit(0)", x -> x.exit(0));
        refused(STATE, "tell(0, 1, 0)", x -> x.tell(0, 1, 0));
        refused(STATE, "give(2, 1, 0)", x -> x.give(2, 1, 0));
        refused(STATE, "take(0, 2)", x -> x.take(0, 2));
        refused(STATE, "greet(1, 0)", x -> x.greet(1, 0));
    }

    private void notWhileANightPlays() {
        refused(STATE, "step(0, 0, 1, 0)", x -> x.step(0, 0, 1, 0));
        refused(STATE, "tear()", MaskHall::tear);
        refused(STATE, "travel()", MaskHall::travel);
        refused(STATE, "night(7)", x -> x.night(7));
    }

    /** In that night 0, 1 and 5 are on, 2 and 3 are off, and 4 is ill. */
    private void notWithTheseMasks() {
        refused(STATE, "enter(0), it is on", x -> x.enter(0));
        refused(STATE, "enter(4), it is ill", x -> x.enter(4));
        refused(STATE, "exit(2), it is off", x -> x.exit(2));
        refused(STATE, "exit(4), it is ill", x -> x.exit(4));
        refused(STATE, "tell(0, 2, 0), 2 is off", x -> x.tell(0, 2, 0));
        refused(STATE, "tell(2, 0, 3), 2 is off", x -> x.tell(2, 0, 3));
        refused(STATE, "tell(0, 1, 3), 0 does not know it", x -> x.tell(0, 1, 3));
        refused(STATE, "tell(1, 0, 2), it is banned", x -> x.tell(1, 0, 2));
        refused(STATE, "give(2, 1, 0), 2 is off", x -> x.give(2, 1, 0));
        refused(STATE, "give(5, 2, 2), 2 is off", x -> x.give(5, 2, 2));
        refused(STATE, "give(0, 1, 2), 5 has it", x -> x.give(0, 1, 2));
        refused(STATE, "give(0, 1, 3), it lies about", x -> x.give(0, 1, 3));
        refused(STATE, "take(2, 3), 2 is off", x -> x.take(2, 3));
        refused(STATE, "take(0, 2), 5 has it", x -> x.take(0, 2));
        refused(STATE, "take(5, 2), it has it", x -> x.take(5, 2));
        refused(STATE, "greet(0, 2), 2 is off", x -> x.greet(0, 2));
        refused(STATE, "greet(2, 0), 2 is off", x -> x.greet(2, 0));
        refused(STATE, "play(0, 2), 2 is off", x -> x.play(0, 2));
        refused(STATE, "play(0, 4), 4 is ill", x -> x.play(0, 4));
        refused(STATE, "play(1, 0), it has not the prop", x -> x.play(1, 0));
    }

    // ---- the scenes

    private static MaskHall fullHall() {
        MaskHall x = Probe.told();
        for (int i = 6; i < 12; i++) {
            x.step(i % 5, 1, 5, 2);
        }
        for (int i = 2; i < 6; i++) {
            x.gag(i, 64, MaskHall.NONE);
        }
        return x;
    }

    private static MaskHall playing() {
        MaskHall x = Probe.told();
        x.knows(1, 2, true);
        x.knows(2, 3, true);
        x.has(2, 5);
        x.night(50);
        come(x, 0, 1, 5);
        x.tell(0, 1, 0);
        x.play(0, 0);
        return x;
    }

    private static MaskHall closed() {
        MaskHall x = Probe.told();
        x.night(50);
        come(x, 0, 1, 2);
        x.tell(0, 1, 0);
        x.give(2, 1, 0);
        come(x, 3);
        x.play(1, 3);
        x.greet(0, 1);
        x.tell(0, 3, 0);
        x.exit(1);
        return x;
    }

    private static MaskHall late() {
        MaskHall x = Probe.told();
        x.night(5);
        come(x, 0, 1, 2);
        x.tell(0, 1, 0);
        x.play(0, 0);
        return x;
    }
}
