import java.util.ArrayList;
import java.util.Arrays;
import java.util.List;

/** Long runs of calls, the same each time, on MaskHall and on the Model side by side. */
public final class ModelRunsTest {
    private static final int RUNS = 400;
    private static final int CALLS = 512;

    /** Both ends of one call: what the hall answers, and what the model does. */
    private interface Call {
        Object on(MaskHall hall, Model model, boolean askHall);
    }

    private long seed;
    private MaskHall hall;
    private Model model;
    private final List<String> log = new ArrayList<>();
    private final int[] outcomes = new int[3];
    private final int[] nights = new int[4];
    private final int[] ways = new int[8]; // from -1 on
    private final int[] thrown = new int[3];
    private int shares;

    public static void main(String[] args) {
        ModelRunsTest test = new ModelRunsTest();
        for (int run = 1; run <= RUNS; run++) {
            test.run(run);
        }
        test.needCoverage();
        System.out.println(RUNS + " runs agree with the model");
    }

    private void run(int number) {
        seed = number * 7919L;
        hall = new MaskHall();
        model = new Model();
        log.clear();
        int calls = 0;
        while (calls + 4 < CALLS) {
            if (model.state != 1 && chance(50)) {
                calls += prepareNight();
            } else if (model.state == 1 && chance(45) && model.can()) {
                calls += chance(60) ? helpfulMove() : temptingTell();
            } else {
                calls += anyCall();
            }
            compareAsked();
            nights[model.state]++;
        }
    }

    // ---- what is called

    private int prepareNight() {
        int calls = 0;
        if (chance(40)) {
            tear();
            calls++;
        }
        int steps = model.steps.isEmpty() ? 1 + below(chance(30) ? 12 : 5) : below(2);
        for (int i = 0; i < steps; i++) {
            step(chance(35) ? 0 : below(5), below(6), below(6), below(4));
        }
        for (int i = below(4); i > 0; i--) {
            knows(below(6), below(4), chance(60));
            has(below(4), below(7) - 1);
            calls += 2;
        }
        calls += chance(75) ? makeClosable() : 0;
        night(chance(30) ? 1 + below(6) : 1 + below(60));
        return calls + steps + 1;
    }

    /** Not always closable, but more often than by chance. */
    private int makeClosable() {
        int calls = 0;
        for (Model.Step s : List.copyOf(model.steps)) {
            boolean somebody = false;
            for (int m = 0; m < 6; m++) {
                somebody |= m != s.b() && model.told.known[m][s.what()];
            }
            if (s.kind() == 0) {
                knows(s.b(), s.what(), false);
                calls++;
            }
            if (s.kind() == 0 && !somebody) {
                knows((s.b() + 1 + below(5)) % 6, s.what(), true);
                calls++;
            }
        }
        return calls;
    }

    private int helpfulMove() {
        int[] m = model.shortest(false, 9).get(0);
        move(m[0], m[1], m[2], m[3]);
        return 1;
    }

    /** Tells, or comes nearer to telling, what a step has yet to tell: such moves may be blocked. */
    private int temptingTell() {
        int at = model.world.next + below(model.steps.size() - model.world.next);
        Model.Step s = model.steps.get(at);
        for (int i = 0, a = below(6); i < 6; i++, a = (a + 1) % 6) {
            if (s.kind() == 0 && a != s.b() && model.world.known[a][s.what()] && !model.ill[a]) {
                int missing = !model.world.on[a] ? a : !model.world.on[s.b()] ? s.b() : -1;
                if (missing == -1) {
                    move(0, a, s.b(), s.what());
                } else {
                    move(2, missing, -1, -1);
                }
                return 1;
            }
        }
        return helpfulMove();
    }

    private int anyCall() {
        int mask = chance(3) ? odd(6) : below(6);
        int other = chance(3) ? odd(6) : below(6);
        int thing = chance(3) ? odd(4) : below(4);
        switch (below(24)) {
            case 0 -> knows(mask, thing, chance(50));
            case 1 -> has(thing, other);
            case 2 -> step(below(7) - 1, mask, other, thing);
            case 3 -> {
                if (chance(20)) {
                    tear();
                }
            }
            case 4 -> {
                if (chance(mask >= 0 && mask < 6 && model.ill[mask] ? 90 : 15)) {
                    ill(mask);
                }
            }
            case 5 -> {
                if (chance(thing >= 0 && thing < 4 && model.banned[thing] ? 90 : 15)) {
                    ban(thing);
                }
            }
            case 6 -> {
                if (chance(20)) {
                    travel();
                }
            }
            case 7 -> gag(below(23) - 1, chance(10) ? below(1400) - 200 : below(1001), thing - below(2));
            case 8 -> points(mask, chance(10) ? below(140) - 20 : below(101));
            case 9 -> night(below(104) - 1);
            case 10, 11 -> play(below(7), mask);
            default -> move(below(6), mask, other, thing);
        }
        return 1;
    }

    private void move(int kind, int a, int b, int what) {
        switch (kind) {
            case 0 -> both("tell " + a + " " + b + " " + what, (h, m, q) -> q ? h.tell(a, b, what) : m.tell(a, b, what));
            case 1 -> both("give " + a + " " + b + " " + what, (h, m, q) -> q ? h.give(a, b, what) : m.give(a, b, what));
            case 2 -> both("enter " + a, (h, m, q) -> q ? h.enter(a) : m.enter(a));
            case 3 -> both("exit " + a, (h, m, q) -> q ? h.exit(a) : m.exit(a));
            case 4 -> both("greet " + a + " " + b, (h, m, q) -> q ? h.greet(a, b) : m.greet(a, b));
            default -> both("take " + a + " " + what, (h, m, q) -> q ? h.take(a, what) : m.take(a, what));
        }
    }

    private void knows(int mask, int secret, boolean does) {
        both("knows " + mask + " " + secret + " " + does, (h, m, q) -> q ? h.knows(mask, secret, does) : m.knows(mask, secret, does));
    }

    private void has(int prop, int mask) {
        both("has " + prop + " " + mask, (h, m, q) -> q ? h.has(prop, mask) : m.has(prop, mask));
    }

    private void step(int kind, int a, int b, int what) {
        both("step " + kind + " " + a + " " + b + " " + what, (h, m, q) -> q ? h.step(kind, a, b, what) : m.step(kind, a, b, what));
    }

    private void tear() {
        both("tear", (h, m, q) -> q ? h.tear() : m.tear());
    }

    private void ill(int mask) {
        both("ill " + mask, (h, m, q) -> q ? h.ill(mask) : m.ill(mask));
    }

    private void ban(int secret) {
        both("ban " + secret, (h, m, q) -> q ? h.ban(secret) : m.ban(secret));
    }

    private void travel() {
        both("travel", (h, m, q) -> {
            if (q) {
                h.travel();
            } else {
                m.travel();
            }
            return 0;
        });
    }

    private void gag(int length, int wit, int prop) {
        both("gag " + length + " " + wit + " " + prop, (h, m, q) -> q ? h.gag(length, wit, prop) : m.gag(length, wit, prop));
    }

    private void points(int mask, int points) {
        both("points " + mask + " " + points, (h, m, q) -> q ? h.points(mask, points) : m.points(mask, points));
    }

    private void night(int light) {
        both("night " + light, (h, m, q) -> {
            if (q) {
                h.night(light);
            } else {
                m.night(light);
            }
            return 0;
        });
    }

    private void play(int gag, int mask) {
        both("play " + gag + " " + mask, (h, m, q) -> q ? h.play(gag, mask) : m.play(gag, mask));
    }

    // ---- what is asked

    /** Questions change nothing, and are not counted among the 512 calls. */
    private void compareAsked() {
        both("state", (h, m, q) -> q ? h.state() : m.state);
        both("next", (h, m, q) -> q ? h.next() : m.next());
        both("can", (h, m, q) -> q ? h.can() : m.can());
        if (chance(25)) {
            both("way", (h, m, q) -> q ? h.way() : m.way());
            both("wayAnew", (h, m, q) -> q ? h.wayAnew() : m.way());
            ways[hall.way() + 1]++;
        }
        for (int i = -1; i <= 6; i++) {
            int what = i;
            both("count " + what, (h, m, q) -> q ? h.count(what) : m.count(what));
            both("share " + what, (h, m, q) -> q ? h.share(what) : m.share(what));
        }
        for (int i = -1; i <= 4; i++) {
            int prop = i;
            int mask = below(6);
            both("holder " + prop, (h, m, q) -> q ? h.holder(prop) : m.holder(prop));
            both("isKnown " + mask + " " + prop, (h, m, q) -> q ? h.isKnown(mask, prop) : m.isKnown(mask, prop));
        }
        shares += hall.share(0) > 0 ? 1 : 0;
    }

    // ---- comparing

    private void both(String name, Call call) {
        Object want = answer(call, false);
        Object got = answer(call, true);
        log.add(name + " -> " + want);
        if (!want.equals(got)) {
            log.forEach(System.out::println);
            System.out.println("answered " + got);
            System.exit(1);
        }
        if (want instanceof Integer i && i >= 0 && i <= 2 && "tell give enter exit greet take".contains(name.split(" ")[0])) {
            outcomes[i]++;
        }
        if (want instanceof String s) {
            thrown[s.startsWith("Ind") ? 0 : s.startsWith("IllegalA") ? 1 : 2]++;
        }
    }

    private Object answer(Call call, boolean askHall) {
        try {
            return call.on(hall, model, askHall);
        } catch (IndexOutOfBoundsException | IllegalArgumentException | IllegalStateException e) {
            // The document's own exceptions, and none that the machine throws by itself.
            return e.getClass().getSimpleName();
        }
    }

    private void needCoverage() {
        boolean enough = shares > 1000;
        for (int[] seen : new int[][] {outcomes, nights, thrown}) {
            for (int n : seen) {
                enough &= n >= 200;
            }
        }
        for (int w = 0; w <= 6; w++) {
            enough &= w == 1 ? ways[w] == 0 : ways[w] >= 100;
        }
        enough &= ways[7] == 0;
        if (!enough) {
            System.out.println("the runs do not reach enough: outcomes " + Arrays.toString(outcomes)
                    + " nights " + Arrays.toString(nights) + " thrown " + Arrays.toString(thrown)
                    + " ways " + Arrays.toString(ways) + " shares " + shares);
            System.exit(1);
        }
        System.out.println("outcomes " + Arrays.toString(outcomes) + " nights " + Arrays.toString(nights)
                + " ways " + Arrays.toString(ways));
    }

    private int below(int end) {
        seed = seed * 6364136223846793005L + 1442695040888963407L;
        return (int) ((seed >>> 33) % end);
    }

    /** An argument that is at the edge of its range, or out of it, also far out. */
    private int odd(int end) {
        int[] values = {Integer.MIN_VALUE, -2, -1, 0, end - 1, end, end + 1, 32, Integer.MAX_VALUE};
        return values[below(values.length)];
    }

    private boolean chance(int percent) {
        return below(100) < percent;
    }
}
