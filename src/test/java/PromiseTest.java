import java.util.function.Supplier;

/** For each promise: ordinary inputs, the edges that the document names, and wrong inputs. */
public final class PromiseTest {
    private static final Class<?> INDEX = IndexOutOfBoundsException.class;
    private static final Class<?> ARGUMENT = IllegalArgumentException.class;
    private static final Class<?> STATE = IllegalStateException.class;

    private static int promise;
    private static int checks;
    private static int wrong;

    public static void main(String[] args) {
        Runnable[] promises = {
            PromiseTest::newObject, PromiseTest::knows, PromiseTest::has, PromiseTest::step, PromiseTest::tear,
            PromiseTest::ill, PromiseTest::ban, PromiseTest::travel, PromiseTest::gag, PromiseTest::points,
            PromiseTest::night, PromiseTest::enter, PromiseTest::exit, PromiseTest::tell, PromiseTest::give,
            PromiseTest::take, PromiseTest::greet, PromiseTest::play, PromiseTest::state, PromiseTest::next,
            PromiseTest::can, PromiseTest::way, PromiseTest::wayAnew, PromiseTest::isKnown, PromiseTest::holder,
            PromiseTest::count, PromiseTest::share
        };
        for (promise = 1; promise <= promises.length; promise++) {
            promises[promise - 1].run();
        }
        System.out.println(checks + " checks, " + wrong + " wrong");
        if (wrong != 0) {
            System.exit(1);
        }
    }

    // ---- helpers

    private static void due(Object want, Object got) {
        checks++;
        if (!want.equals(got)) {
            wrong++;
            StackTraceElement at = new Throwable().getStackTrace()[1];
            System.out.println("promise " + promise + ", line " + at.getLineNumber() + ": got " + got + ", due " + want);
        }
    }

    /** A call that has to throw just that class, not one below it. */
    private static void dueThrow(Class<?> want, Supplier<Object> call) {
        checks++;
        Object got;
        try {
            got = call.get();
        } catch (RuntimeException e) {
            got = e.getClass();
        }
        if (got != want) {
            wrong++;
            StackTraceElement at = new Throwable().getStackTrace()[1];
            System.out.println("promise " + promise + ", line " + at.getLineNumber() + ": got " + got + ", due " + want);
        }
    }

    private static Supplier<Object> of(Runnable call) {
        return () -> {
            call.run();
            return "nothing";
        };
    }

    /** A night of a canvas with a single step that is a meeting of 4 and 5. */
    private static MaskHall meeting(int light) {
        MaskHall x = new MaskHall();
        x.step(MaskHall.MEET, 4, 5, 0);
        x.night(light);
        return x;
    }

    /** A night that ended with 0 and 1 on; 0 knows secret 0 and has prop 0, prop 1 lies about. */
    private static MaskHall ended(boolean isClosed) {
        MaskHall x = new MaskHall();
        x.knows(0, 0, true);
        x.has(0, 0);
        x.gag(1, 1, -1);
        x.step(MaskHall.ENTER, 1, 0, 0);
        x.step(MaskHall.EXIT, isClosed ? 2 : 3, 0, 0);
        x.night(4);
        enterAll(x, 0);
        due(MaskHall.DONE, x.enter(1));
        enterAll(x, 2);
        x.exit(2);
        due(isClosed ? MaskHall.CLOSED : MaskHall.LATE, x.state());
        return x;
    }

    private static void enterAll(MaskHall x, int... masks) {
        for (int mask : masks) {
            due(MaskHall.TAKEN, x.enter(mask));
        }
    }

    private static void dueWay(int want, MaskHall x) {
        due(want, promise == 23 ? x.wayAnew() : x.way());
        due(x.way(), x.wayAnew());
    }

    // ---- the promises

    private static void newObject() {
        MaskHall x = new MaskHall();
        for (int m = 0; m < 6; m++) {
            for (int s = 0; s < 4; s++) {
                due(false, x.isKnown(m, s));
                due(false, x.knows(m, s, false));
            }
            due(1, x.points(m, 1));
        }
        for (int p = 0; p < 4; p++) {
            due(-1, x.holder(p));
            due(-1, x.has(p, -1));
        }
        for (int c = 0; c < 6; c++) {
            due(0, x.count(c));
        }
        due(0, x.tear());
        due(0, x.state());
        due(-1, x.next());
        due(false, x.can());
        dueThrow(INDEX, () -> x.play(0, 0));
        due(true, x.ill(0));
        due(true, x.ban(0));
        MaskHall y = new MaskHall();
        due(true, y.ill(0));
        due(0, y.gag(1, 1, -1));
    }

    private static void knows() {
        MaskHall x = new MaskHall();
        due(false, x.knows(5, 3, true));
        due(true, x.knows(5, 3, true));
        due(false, x.knows(5, 2, false));
        due(false, x.knows(4, 3, false));
        due(true, x.knows(5, 3, false));
        due(false, x.knows(5, 3, true));
        dueThrow(INDEX, () -> x.knows(-1, 0, true));
        dueThrow(INDEX, () -> x.knows(6, 0, true));
        dueThrow(INDEX, () -> x.knows(0, -1, true));
        dueThrow(INDEX, () -> x.knows(0, 4, true));
        x.step(MaskHall.MEET, 0, 1, 0);
        x.night(2);
        due(true, x.isKnown(5, 3));
        due(true, x.knows(5, 3, false));
        due(false, x.knows(0, 0, true));
        due(true, x.isKnown(5, 3));
        due(false, x.isKnown(0, 0));
        enterAll(x, 0, 1);
        due(MaskHall.LATE, x.state());
        due(true, x.isKnown(5, 3));
        x.night(1);
        due(false, x.isKnown(5, 3));
        due(true, x.isKnown(0, 0));
        due(true, x.knows(0, 0, true));
    }

    private static void has() {
        MaskHall x = new MaskHall();
        due(-1, x.has(3, 5));
        due(5, x.has(3, 0));
        due(0, x.has(3, 0));
        due(-1, x.has(2, -1));
        dueThrow(INDEX, () -> x.has(-1, 0));
        dueThrow(INDEX, () -> x.has(4, 0));
        dueThrow(INDEX, () -> x.has(0, -2));
        dueThrow(INDEX, () -> x.has(0, 6));
        dueThrow(INDEX, () -> x.has(0, Integer.MIN_VALUE));
        x.step(MaskHall.MEET, 0, 1, 0);
        x.night(1);
        due(0, x.has(3, 4));
        due(0, x.holder(3));
        x.enter(0);
        due(0, x.holder(3));
        x.night(1);
        due(4, x.holder(3));
        due(4, x.has(3, -1));
        due(-1, x.has(3, -1));
    }

    private static void step() {
        MaskHall x = new MaskHall();
        dueThrow(INDEX, () -> x.step(9, 6, 6, 0));
        dueThrow(INDEX, () -> x.step(0, -1, 1, 0));
        dueThrow(INDEX, () -> x.step(0, 0, 6, 0));
        dueThrow(INDEX, () -> x.step(MaskHall.ENTER, 0, -1, 0));
        dueThrow(INDEX, () -> x.step(MaskHall.EXIT, 0, 1, 4));
        dueThrow(INDEX, () -> x.step(MaskHall.MEET, 0, 1, -1));
        dueThrow(ARGUMENT, () -> x.step(-1, 0, 1, 0));
        dueThrow(ARGUMENT, () -> x.step(MaskHall.TAKE, 0, 1, 0));
        dueThrow(ARGUMENT, () -> x.step(MaskHall.ENTER, 3, 3, 0));
        dueThrow(INDEX, () -> x.step(MaskHall.ENTER, 6, 6, 0));
        for (int i = 1; i <= 12; i++) {
            due(i, x.step(i % 5, 5, 0, 3));
        }
        dueThrow(STATE, () -> x.step(0, 0, 1, 0));
        dueThrow(ARGUMENT, () -> x.step(5, 0, 1, 0));
        dueThrow(INDEX, () -> x.step(5, 0, 1, 4));
        due(12, x.tear());
        due(1, x.step(MaskHall.ENTER, 2, 3, 1));
        due(2, x.step(MaskHall.EXIT, 2, 4, 2));
        x.night(3);
        dueThrow(STATE, () -> x.step(0, 0, 1, 0));
        dueThrow(ARGUMENT, () -> x.step(0, 1, 1, 0));
        due(MaskHall.DONE, x.enter(2));
        due(MaskHall.DONE, x.exit(2));
        due(MaskHall.CLOSED, x.state());
        due(3, x.step(MaskHall.MEET, 0, 1, 0));
    }

    private static void tear() {
        MaskHall x = meeting(1);
        dueThrow(STATE, () -> x.tear());
        x.enter(0);
        due(1, x.tear());
        due(0, x.tear());
        dueThrow(STATE, of(() -> x.night(1)));
        due(1, x.step(MaskHall.ENTER, 0, 1, 0));
        x.night(1);
        due(MaskHall.DONE, x.enter(0));
        due(1, x.tear());
    }

    private static void ill() {
        MaskHall x = new MaskHall();
        dueThrow(INDEX, () -> x.ill(-1));
        dueThrow(INDEX, () -> x.ill(6));
        due(true, x.ill(5));
        due(false, x.ill(5));
        x.has(1, 0);
        x.step(MaskHall.EXIT, 0, 1, 0);
        x.step(MaskHall.ENTER, 2, 1, 0);
        x.night(9);
        enterAll(x, 0, 1);
        due(true, x.ill(0));
        due(2, x.count(4));
        due(0, x.next());
        due(2, x.count(0));
        due(2, x.count(5));
        due(0, x.holder(1));
        dueThrow(STATE, () -> x.enter(0));
        dueThrow(STATE, () -> x.exit(0));
        due(false, x.ill(0));
        due(2, x.count(4));
        due(MaskHall.TAKEN, x.enter(0));
        due(true, x.ill(1));
        due(true, x.can());
        due(MaskHall.DONE, x.exit(0));
        due(true, x.ill(2));
        due(false, x.can());
        due(false, x.ill(2));
        due(MaskHall.DONE, x.enter(2));
        due(4, x.count(4));
        due(true, x.ill(2));
        due(0, x.count(4));
        x.night(4);
        due(false, x.can());
        dueThrow(STATE, () -> x.enter(2));
        dueThrow(STATE, () -> x.enter(1));
    }

    private static void ban() {
        MaskHall x = new MaskHall();
        dueThrow(INDEX, () -> x.ban(-1));
        dueThrow(INDEX, () -> x.ban(4));
        due(true, x.ban(3));
        due(true, x.ban(0));
        due(false, x.ban(0));
        x.knows(0, 3, true);
        x.knows(0, 2, true);
        x.step(MaskHall.TELL, 0, 1, 3);
        x.night(20);
        due(false, x.can());
        enterAll(x, 0, 1);
        dueThrow(STATE, () -> x.tell(0, 1, 3));
        due(MaskHall.TAKEN, x.tell(0, 1, 2));
        due(false, x.ban(3));
        due(true, x.can());
        due(true, x.ban(2));
        due(true, x.can());
        due(MaskHall.DONE, x.tell(0, 1, 3));
    }

    private static void travel() {
        MaskHall x = new MaskHall();
        for (int secret = 0; secret < 4; secret++) {
            x.ban(secret);
        }
        x.gag(1, 100, -1);
        x.step(MaskHall.MEET, 0, 1, 0);
        x.night(3);
        x.enter(0);
        due(100, x.play(0, 0));
        dueThrow(STATE, of(x::travel));
        due(50, x.play(0, 0));
        x.night(3);
        x.enter(0);
        due(25, x.play(0, 0));
        due(12, x.play(0, 0));
        x.travel();
        for (int secret = 0; secret < 4; secret++) {
            due(true, x.ban(secret));
        }
        x.night(4);
        x.enter(0);
        due(100, x.play(0, 0));
        due(287, x.count(1));
    }

    private static void gag() {
        MaskHall x = new MaskHall();
        dueThrow(INDEX, () -> x.gag(0, -1, -2));
        dueThrow(INDEX, () -> x.gag(1, 1, 4));
        dueThrow(ARGUMENT, () -> x.gag(0, 1, -1));
        dueThrow(ARGUMENT, () -> x.gag(21, 1, -1));
        dueThrow(ARGUMENT, () -> x.gag(1, -1, 0));
        dueThrow(ARGUMENT, () -> x.gag(1, 1001, 3));
        due(0, x.gag(1, 0, -1));
        due(1, x.gag(20, 1000, 3));
        due(2, x.gag(1, 1, 0));
        x.step(MaskHall.MEET, 0, 1, 0);
        x.night(50);
        due(3, x.gag(1, 1, 0));
        due(4, x.gag(1, 1, 0));
        due(5, x.gag(2, 7, -1));
        dueThrow(STATE, () -> x.gag(1, 1, 0));
        dueThrow(ARGUMENT, () -> x.gag(0, 1, 0));
        dueThrow(INDEX, () -> x.gag(0, 1, 4));
        x.enter(0);
        due(7, x.play(5, 0));
        due(3, x.count(0));
        dueThrow(INDEX, () -> x.play(6, 0));
    }

    private static void points() {
        MaskHall x = new MaskHall();
        dueThrow(INDEX, () -> x.points(-1, 101));
        dueThrow(INDEX, () -> x.points(6, 0));
        dueThrow(ARGUMENT, () -> x.points(0, -1));
        dueThrow(ARGUMENT, () -> x.points(0, 101));
        due(1, x.points(5, 100));
        due(100, x.points(5, 0));
        due(0, x.points(5, 7));
        due(1, x.points(0, 1));
    }

    private static void night() {
        MaskHall x = new MaskHall();
        dueThrow(ARGUMENT, of(() -> x.night(0)));
        dueThrow(ARGUMENT, of(() -> x.night(101)));
        dueThrow(STATE, of(() -> x.night(100)));
        due(0, x.state());
        x.has(0, 3);
        x.knows(2, 2, true);
        x.step(MaskHall.MEET, 0, 1, 0);
        x.night(100);
        dueThrow(STATE, of(() -> x.night(1)));
        dueThrow(ARGUMENT, of(() -> x.night(0)));
        enterAll(x, 0, 1, 2, 3);
        x.tell(2, 3, 2);
        x.give(3, 1, 0);
        due(15, x.count(4));
        for (int i = 6; i < 99; i++) {
            due(MaskHall.TAKEN, x.greet(2, 3));
        }
        due(MaskHall.PLAYS, x.state());
        due(99, x.count(0));
        due(MaskHall.DONE, x.greet(0, 1));
        due(MaskHall.CLOSED, x.state());
        due(0, x.count(3));
        x.night(1);
        due(MaskHall.PLAYS, x.state());
        due(0, x.next());
        due(0, x.count(0));
        due(0, x.count(5));
        due(0, x.count(4));
        due(3, x.holder(0));
        due(false, x.isKnown(3, 2));
        due(true, x.isKnown(2, 2));
    }

    private static void enter() {
        MaskHall x = new MaskHall();
        dueThrow(STATE, () -> x.enter(0));
        dueThrow(INDEX, () -> x.enter(-1));
        dueThrow(INDEX, () -> x.enter(6));
        x.step(MaskHall.ENTER, 3, 4, 0);
        x.step(MaskHall.ENTER, 3, 4, 0);
        x.night(10);
        due(MaskHall.TAKEN, x.enter(4));
        dueThrow(STATE, () -> x.enter(4));
        due(MaskHall.DONE, x.enter(3));
        dueThrow(STATE, () -> x.enter(3));
        due(24, x.count(4));
        x.ill(0);
        dueThrow(STATE, () -> x.enter(0));
        due(2, x.count(0));
        due(MaskHall.TAKEN, x.exit(3));
        due(MaskHall.DONE, x.enter(3));
        dueThrow(STATE, () -> x.enter(1));
        for (boolean isClosed : new boolean[] {true, false}) {
            MaskHall over = ended(isClosed);
            dueThrow(STATE, () -> over.enter(3));
            due(4, over.count(0));
        }
    }

    private static void exit() {
        MaskHall x = new MaskHall();
        dueThrow(STATE, () -> x.exit(0));
        dueThrow(INDEX, () -> x.exit(-1));
        dueThrow(INDEX, () -> x.exit(6));
        x.step(MaskHall.EXIT, 5, 0, 3);
        x.night(10);
        dueThrow(STATE, () -> x.exit(5));
        enterAll(x, 0, 5);
        due(MaskHall.TAKEN, x.exit(0));
        due(32, x.count(4));
        dueThrow(STATE, () -> x.exit(0));
        due(MaskHall.DONE, x.exit(5));
        due(0, x.count(4));
        due(4, x.count(0));
        dueThrow(STATE, () -> x.exit(5));
        for (boolean isClosed : new boolean[] {true, false}) {
            MaskHall over = ended(isClosed);
            dueThrow(STATE, () -> over.exit(0));
            due(4, over.count(0));
        }
    }

    private static void tell() {
        MaskHall x = new MaskHall();
        dueThrow(STATE, () -> x.tell(0, 1, 0));
        dueThrow(INDEX, () -> x.tell(6, 6, 0));
        dueThrow(INDEX, () -> x.tell(-1, 0, 0));
        dueThrow(INDEX, () -> x.tell(0, 6, 0));
        dueThrow(INDEX, () -> x.tell(0, 0, 4));
        dueThrow(INDEX, () -> x.tell(0, 1, -1));
        dueThrow(ARGUMENT, () -> x.tell(0, 0, 0));
        x.knows(0, 0, true);
        x.knows(2, 0, true);
        x.knows(0, 1, true);
        x.step(MaskHall.TELL, 0, 1, 0);
        x.step(MaskHall.TELL, 1, 3, 0);
        x.step(MaskHall.MEET, 0, 1, 0);
        x.night(60);
        enterAll(x, 0, 1, 2);
        dueThrow(STATE, () -> x.tell(0, 3, 0));
        dueThrow(STATE, () -> x.tell(3, 0, 0));
        dueThrow(STATE, () -> x.tell(1, 0, 0));
        dueThrow(STATE, () -> x.tell(1, 0, 1));
        enterAll(x, 3, 4);
        due(MaskHall.BLOCKED, x.tell(2, 1, 0));
        due(MaskHall.BLOCKED, x.tell(0, 3, 0));
        due(5, x.count(0));
        due(5, x.count(5));
        due(false, x.isKnown(1, 0));
        due(MaskHall.TAKEN, x.tell(0, 3, 1));
        due(MaskHall.TAKEN, x.tell(0, 4, 0));
        due(MaskHall.TAKEN, x.tell(0, 4, 0));
        due(true, x.isKnown(4, 0));
        due(8, x.count(0));
        due(MaskHall.DONE, x.tell(0, 1, 0));
        due(1, x.next());
        due(MaskHall.TAKEN, x.tell(0, 1, 0));
        due(MaskHall.BLOCKED, x.tell(4, 3, 0));
        // A plot that cannot be closed is not spoilt any more.
        x.ill(5);
        due(true, x.can());
        x.ban(0);
        due(false, x.can());
        dueThrow(STATE, () -> x.tell(4, 3, 0));
        x.ban(0);
        due(true, x.can());
        x.ill(0);
        due(false, x.can());
        // ... and the next step is done nevertheless.
        due(MaskHall.DONE, x.tell(1, 3, 0));
        due(2, x.next());

        MaskHall y = new MaskHall();
        y.knows(0, 0, true);
        y.step(MaskHall.TELL, 0, 1, 0);
        y.step(MaskHall.ENTER, 5, 0, 0);
        y.ill(5);
        y.night(60);
        enterAll(y, 0, 1, 2);
        y.tell(0, 2, 0);
        due(false, y.can());
        due(MaskHall.TAKEN, y.tell(2, 1, 0));
        due(MaskHall.TAKEN, y.tell(0, 1, 0));
        due(0, y.next());
        for (boolean isClosed : new boolean[] {true, false}) {
            MaskHall over = ended(isClosed);
            dueThrow(STATE, () -> over.tell(0, 1, 0));
            due(4, over.count(0));
        }
    }

    private static void give() {
        MaskHall x = new MaskHall();
        dueThrow(STATE, () -> x.give(0, 1, 0));
        dueThrow(INDEX, () -> x.give(6, 6, 0));
        dueThrow(INDEX, () -> x.give(-1, 0, 0));
        dueThrow(INDEX, () -> x.give(0, 6, 0));
        dueThrow(INDEX, () -> x.give(0, 0, 4));
        dueThrow(INDEX, () -> x.give(0, 1, -1));
        dueThrow(ARGUMENT, () -> x.give(0, 0, 0));
        x.has(2, 0);
        x.has(3, 0);
        x.step(MaskHall.GIVE, 0, 1, 2);
        x.step(MaskHall.MEET, 0, 1, 2);
        x.night(20);
        x.enter(0);
        dueThrow(STATE, () -> x.give(0, 1, 2));
        x.enter(1);
        dueThrow(STATE, () -> x.give(1, 0, 2));
        dueThrow(STATE, () -> x.give(0, 1, 1));
        due(MaskHall.TAKEN, x.give(0, 1, 3));
        due(1, x.holder(3));
        x.enter(2);
        due(MaskHall.TAKEN, x.give(0, 2, 2));
        due(MaskHall.TAKEN, x.give(2, 1, 2));
        due(MaskHall.TAKEN, x.give(1, 0, 2));
        due(MaskHall.DONE, x.give(0, 1, 2));
        due(1, x.holder(2));
        due(8, x.count(0));
        dueThrow(STATE, () -> x.give(0, 1, 2));
        x.exit(1);
        dueThrow(STATE, () -> x.give(1, 0, 2));
        for (boolean isClosed : new boolean[] {true, false}) {
            MaskHall over = ended(isClosed);
            dueThrow(STATE, () -> over.give(0, 1, 0));
            due(4, over.count(0));
        }
    }

    private static void take() {
        MaskHall x = new MaskHall();
        dueThrow(STATE, () -> x.take(0, 0));
        dueThrow(INDEX, () -> x.take(-1, 0));
        dueThrow(INDEX, () -> x.take(6, 0));
        dueThrow(INDEX, () -> x.take(0, -1));
        dueThrow(INDEX, () -> x.take(0, 4));
        x.has(3, 5);
        x.step(MaskHall.GIVE, 0, 1, 0);
        x.night(20);
        dueThrow(STATE, () -> x.take(0, 0));
        x.enter(0);
        dueThrow(STATE, () -> x.take(0, 3));
        due(MaskHall.TAKEN, x.take(0, 0));
        due(0, x.holder(0));
        dueThrow(STATE, () -> x.take(0, 0));
        due(2, x.count(0));
        due(2, x.count(5));
        x.ill(0);
        due(0, x.holder(0));
        x.enter(1);
        dueThrow(STATE, () -> x.take(1, 0));
        for (boolean isClosed : new boolean[] {true, false}) {
            MaskHall over = ended(isClosed);
            dueThrow(STATE, () -> over.take(0, 1));
            due(4, over.count(0));
        }
    }

    private static void greet() {
        MaskHall x = new MaskHall();
        dueThrow(STATE, () -> x.greet(0, 1));
        dueThrow(INDEX, () -> x.greet(6, 6));
        dueThrow(INDEX, () -> x.greet(-1, 0));
        dueThrow(INDEX, () -> x.greet(0, 6));
        dueThrow(ARGUMENT, () -> x.greet(0, 0));
        x.step(MaskHall.MEET, 0, 1, 0);
        x.step(MaskHall.MEET, 0, 1, 1);
        x.step(MaskHall.ENTER, 0, 1, 1);
        x.night(20);
        x.enter(0);
        dueThrow(STATE, () -> x.greet(0, 1));
        dueThrow(STATE, () -> x.greet(1, 0));
        enterAll(x, 1, 2);
        due(MaskHall.TAKEN, x.greet(0, 2));
        due(MaskHall.TAKEN, x.greet(2, 0));
        due(MaskHall.TAKEN, x.greet(1, 2));
        due(MaskHall.TAKEN, x.greet(2, 1));
        due(MaskHall.DONE, x.greet(1, 0));
        due(MaskHall.DONE, x.greet(0, 1));
        due(MaskHall.TAKEN, x.greet(0, 1));
        due(10, x.count(0));
        due(10, x.count(5));
        for (boolean isClosed : new boolean[] {true, false}) {
            MaskHall over = ended(isClosed);
            dueThrow(STATE, () -> over.greet(0, 1));
            due(4, over.count(0));
        }
    }

    private static void play() {
        MaskHall x = new MaskHall();
        x.gag(2, 1000, -1);
        x.gag(20, 7, 2);
        dueThrow(INDEX, () -> x.play(-1, 0));
        dueThrow(INDEX, () -> x.play(2, 0));
        dueThrow(INDEX, () -> x.play(0, 6));
        dueThrow(INDEX, () -> x.play(0, -1));
        dueThrow(STATE, () -> x.play(0, 0));
        x.step(MaskHall.MEET, 4, 5, 0);
        x.night(100);
        dueThrow(STATE, () -> x.play(0, 0));
        enterAll(x, 0, 1);
        int wit = 1000;
        for (int i = 0; i < 35; i++) {
            due(wit, x.play(0, i % 2));
            wit /= 2;
        }
        due(72, x.count(0));
        due(2, x.count(5));
        due(1994, x.count(1));
        dueThrow(STATE, () -> x.play(1, 0));
        x.take(1, 2);
        dueThrow(STATE, () -> x.play(1, 0));
        due(7, x.play(1, 1));
        due(93, x.count(0));
        due(MaskHall.PLAYS, x.state());
        due(3, x.play(1, 1));
        due(100, x.count(0));
        due(MaskHall.LATE, x.state());
        due(2004, x.count(1));
        dueThrow(STATE, () -> x.play(0, 1));
        x.night(3);
        x.enter(0);
        x.ill(0);
        dueThrow(STATE, () -> x.play(0, 0));
        for (boolean isClosed : new boolean[] {true, false}) {
            MaskHall over = ended(isClosed);
            dueThrow(STATE, () -> over.play(0, 0));
            due(4, over.count(0));
        }
    }

    private static void state() {
        MaskHall x = new MaskHall();
        due(MaskHall.NO_NIGHT, x.state());
        x.step(MaskHall.ENTER, 0, 1, 0);
        due(MaskHall.NO_NIGHT, x.state());
        x.night(1);
        due(MaskHall.PLAYS, x.state());
        x.enter(1);
        due(MaskHall.LATE, x.state());
        x.night(1);
        due(MaskHall.PLAYS, x.state());
        x.enter(0);
        due(MaskHall.CLOSED, x.state());
        x.tear();
        due(MaskHall.CLOSED, x.state());
        due(1, x.count(2));
        due(1, x.count(3));
    }

    private static void next() {
        MaskHall x = new MaskHall();
        x.step(MaskHall.ENTER, 0, 1, 0);
        x.step(MaskHall.ENTER, 1, 0, 0);
        due(-1, x.next());
        x.night(2);
        due(0, x.next());
        x.enter(1);
        due(0, x.next());
        x.enter(0);
        due(1, x.next());
        due(MaskHall.LATE, x.state());
        x.tear();
        due(1, x.next());
        x.step(MaskHall.ENTER, 0, 1, 0);
        due(1, x.next());
        x.night(9);
        due(0, x.next());
        x.enter(0);
        due(1, x.next());
        x.step(MaskHall.ENTER, 0, 1, 0);
        due(1, x.next());
    }

    private static void can() {
        MaskHall x = new MaskHall();
        due(false, x.can());
        x.knows(0, 0, true);
        x.step(MaskHall.TELL, 1, 2, 0);
        due(false, x.can());
        x.night(1);
        // 0 can tell it to 1 ahead of the step; that the light is too short does not matter.
        due(true, x.can());
        x.enter(0);
        due(MaskHall.LATE, x.state());
        due(false, x.can());
        x = canvas(9, true, new int[] {MaskHall.ENTER, 0, 1, 0});
        due(true, x.can());
        x.enter(0);
        due(MaskHall.CLOSED, x.state());
        due(false, x.can());
        tellings();
        illAndBanned();
        props();
    }

    private static void tellings() {
        // 1 would have to know it for the first step, and not to know it ahead of the second one.
        due(false, canvas(9, true, new int[] {0, 1, 2, 0}, new int[] {0, 0, 1, 0}).can());
        due(true, canvas(9, true, new int[] {0, 0, 1, 0}, new int[] {0, 1, 2, 0}).can());
        // The same with another secret, which nobody knows, in the second step.
        due(false, canvas(9, true, new int[] {0, 1, 2, 0}, new int[] {0, 0, 1, 1}).can());
        // Nobody knows it at all.
        due(false, canvas(9, false, new int[] {0, 0, 1, 0}).can());
        // A row of steps hands it on.
        due(true, canvas(9, true, new int[] {0, 0, 1, 0}, new int[] {0, 1, 2, 0}, new int[] {0, 2, 3, 0}).can());
        // 4 can be told it by anybody who knows it by then.
        due(true, canvas(9, true, new int[] {0, 0, 1, 0}, new int[] {0, 4, 5, 0}).can());
        // To tell it a second time to the same mask is no step that can be done.
        due(false, canvas(9, true, new int[] {0, 0, 1, 0}, new int[] {0, 3, 1, 0}).can());
        // Nor to tell it to one that knew it at the beginning.
        due(false, canvas(9, true, new int[] {0, 1, 0, 0}).can());

        // Two secrets do not get into each other's way: 1 tells one, and is told the other one.
        MaskHall x = new MaskHall();
        x.knows(0, 0, true);
        x.knows(0, 1, true);
        x.step(MaskHall.TELL, 1, 2, 0);
        x.step(MaskHall.TELL, 0, 1, 1);
        x.step(MaskHall.GIVE, 0, 1, 0);
        x.night(20);
        due(true, x.can());

        // What a mask learns ahead of a step stays known, though who told it falls ill.
        MaskHall y = canvas(20, true, new int[] {0, 1, 2, 0});
        enterAll(y, 0, 4);
        due(MaskHall.TAKEN, y.tell(0, 4, 0));
        y.ill(0);
        due(true, y.can());
        y.ill(4);
        due(false, y.can());
    }

    private static void illAndBanned() {
        // b of ENTER and EXIT does not matter; of the others both do.
        for (int kind = 0; kind < 5; kind++) {
            MaskHall x = canvas(9, true, new int[] {kind, 0, 1, 0});
            due(true, x.can());
            x.ill(1);
            due(kind == MaskHall.ENTER || kind == MaskHall.EXIT, x.can());
            x.ill(1);
            x.ill(0);
            due(false, x.can());
            x.ill(0);
            x.ill(2);
            due(true, x.can());
            x.ban(0);
            due(kind != MaskHall.TELL, x.can());
            x.ban(0);
            x.ban(1);
            due(true, x.can());
        }
        // The only one who knows it is ill, then well again.
        MaskHall y = canvas(20, true, new int[] {0, 1, 2, 0});
        y.ill(0);
        due(false, y.can());
        y.ill(0);
        due(true, y.can());
        enterAll(y, 0, 1);
        due(MaskHall.TAKEN, y.tell(0, 1, 0));
        y.ill(0);
        due(true, y.can());
    }

    private static void props() {
        MaskHall x = new MaskHall();
        x.has(0, 3);
        x.step(MaskHall.GIVE, 0, 1, 0);
        x.step(MaskHall.GIVE, 2, 0, 0);
        x.night(30);
        due(true, x.can());
        x.ill(3);
        due(false, x.can());
        x.ill(3);
        enterAll(x, 3, 4, 0, 1);
        x.give(3, 4, 0);
        x.ill(3);
        due(true, x.can());
        x.ill(4);
        due(false, x.can());
        x.ill(4);
        x.enter(4);
        x.give(4, 0, 0);
        x.give(0, 1, 0);
        due(1, x.next());
        due(true, x.can());
        x.ill(1);
        due(false, x.can());
    }

    private static MaskHall canvas(int light, int[]... steps) {
        return canvas(light, false, steps);
    }

    /** A night of these steps; mask 0 may know secret 0. */
    private static MaskHall canvas(int light, boolean knows, int[]... steps) {
        MaskHall x = new MaskHall();
        x.knows(0, 0, knows);
        for (int[] s : steps) {
            x.step(s[0], s[1], s[2], s[3]);
        }
        x.night(light);
        return x;
    }

    private static void way() {
        ways();
    }

    private static void wayAnew() {
        ways();
    }

    private static void ways() {
        MaskHall none = new MaskHall();
        dueWay(-1, none);
        none.step(MaskHall.ENTER, 0, 1, 0);
        dueWay(-1, none);
        none.night(1);
        dueWay(1, none);
        none.enter(1);
        dueWay(-1, none);
        waysToTell();
        waysToGive();
        waysToTheOthers();
    }

    private static void waysToTell() {
        MaskHall x = canvas(1, true, new int[] {0, 1, 2, 0});
        dueWay(5, x);
        x = canvas(50, true, new int[] {0, 1, 2, 0}, new int[] {0, 0, 3, 0}, new int[] {0, 4, 3, 1});
        dueWay(-1, x);
        x = canvas(50, true, new int[] {0, 1, 2, 0}, new int[] {0, 0, 3, 0});
        dueWay(5, x);
        x.enter(5);
        dueWay(5, x);
        x.enter(0);
        dueWay(4, x);
        due(MaskHall.TAKEN, x.tell(0, 5, 0));
        x.exit(0);
        // 5 is on and knows it too.
        dueWay(4, x);
        x.enter(2);
        dueWay(3, x);
        x.enter(1);
        dueWay(2, x);
        due(MaskHall.BLOCKED, x.tell(5, 2, 0));
        dueWay(2, x);
        due(MaskHall.TAKEN, x.tell(5, 1, 0));
        dueWay(1, x);
        x.exit(1);
        dueWay(2, x);
        x.exit(2);
        dueWay(3, x);
        x.ill(1);
        dueWay(-1, x);
        x.ill(1);
        dueWay(3, x);
        enterAll(x, 1, 2);
        due(MaskHall.DONE, x.tell(1, 2, 0));
        dueWay(3, x);
        // Who knows it is ill, but another one is not.
        x = canvas(50, true, new int[] {0, 1, 2, 0});
        enterAll(x, 0, 4);
        x.tell(0, 4, 0);
        x.ill(0);
        dueWay(4, x);
        x.exit(4);
        dueWay(5, x);
        x.ban(0);
        dueWay(-1, x);
    }

    private static void waysToGive() {
        MaskHall x = canvas(50, new int[] {1, 1, 2, 0});
        dueWay(4, x);
        x.enter(3);
        dueWay(4, x);
        x.take(3, 0);
        dueWay(4, x);
        x.exit(3);
        dueWay(5, x);
        x.enter(1);
        dueWay(4, x);
        x.enter(2);
        dueWay(3, x);
        x.enter(3);
        dueWay(2, x);
        x.give(3, 2, 0);
        dueWay(2, x);
        x.exit(2);
        dueWay(3, x);
        x.enter(2);
        x.give(2, 1, 0);
        dueWay(1, x);
        x.exit(1);
        dueWay(2, x);
        x.exit(2);
        dueWay(3, x);
        MaskHall y = new MaskHall();
        y.has(3, 2);
        y.step(MaskHall.GIVE, 1, 2, 3);
        y.night(9);
        dueWay(4, y);
        MaskHall z = new MaskHall();
        z.has(3, 5);
        z.step(MaskHall.GIVE, 1, 2, 3);
        z.night(9);
        dueWay(5, z);
        z.ill(5);
        dueWay(-1, z);
    }

    private static void waysToTheOthers() {
        MaskHall x = canvas(50, new int[] {2, 1, 2, 0}, new int[] {3, 1, 2, 0}, new int[] {3, 1, 2, 0},
                new int[] {2, 0, 2, 0}, new int[] {4, 1, 2, 0});
        dueWay(1, x);
        x.enter(1);
        dueWay(1, x);
        x.exit(1);
        dueWay(2, x);
        x.enter(1);
        x.enter(0);
        dueWay(1, x);
        x.exit(1);
        dueWay(2, x);
        x.ill(2);
        dueWay(-1, x);
        x.ill(2);
        x.exit(0);
        dueWay(1, x);
        x.enter(0);
        dueWay(3, x);
        x.enter(2);
        dueWay(2, x);
        x.enter(1);
        dueWay(1, x);
        due(MaskHall.DONE, x.greet(2, 1));
        dueWay(-1, x);
    }

    private static void isKnown() {
        MaskHall x = new MaskHall();
        dueThrow(INDEX, () -> x.isKnown(-1, 0));
        dueThrow(INDEX, () -> x.isKnown(6, 0));
        dueThrow(INDEX, () -> x.isKnown(0, -1));
        dueThrow(INDEX, () -> x.isKnown(0, 4));
        x.knows(0, 3, true);
        due(true, x.isKnown(0, 3));
        due(false, x.isKnown(0, 2));
        due(false, x.isKnown(1, 3));
        x.step(MaskHall.MEET, 0, 1, 0);
        x.night(4);
        enterAll(x, 0, 5);
        x.tell(0, 5, 3);
        due(true, x.isKnown(5, 3));
        x.enter(1);
        due(MaskHall.LATE, x.state());
        due(true, x.isKnown(5, 3));
        x.knows(0, 3, false);
        due(true, x.isKnown(0, 3));
        x.night(4);
        due(false, x.isKnown(5, 3));
        due(false, x.isKnown(0, 3));
    }

    private static void holder() {
        MaskHall x = new MaskHall();
        dueThrow(INDEX, () -> x.holder(-1));
        dueThrow(INDEX, () -> x.holder(4));
        x.has(3, 0);
        due(0, x.holder(3));
        due(-1, x.holder(0));
        x.step(MaskHall.MEET, 0, 1, 0);
        x.night(4);
        enterAll(x, 0, 5);
        x.give(0, 5, 3);
        due(5, x.holder(3));
        x.take(0, 0);
        due(MaskHall.LATE, x.state());
        due(0, x.holder(0));
        due(5, x.holder(3));
        x.has(3, 2);
        due(5, x.holder(3));
        x.night(4);
        due(2, x.holder(3));
        due(-1, x.holder(0));
    }

    private static void count() {
        MaskHall x = new MaskHall();
        dueThrow(ARGUMENT, () -> x.count(-1));
        dueThrow(ARGUMENT, () -> x.count(6));
        x.gag(5, 9, -1);
        x.knows(0, 0, true);
        x.step(MaskHall.TELL, 0, 1, 0);
        x.step(MaskHall.MEET, 0, 1, 0);
        x.night(10);
        enterAll(x, 0, 1, 2);
        due(7, x.count(4));
        due(MaskHall.DONE, x.tell(0, 1, 0));
        due(9, x.play(0, 0));
        due(9, x.count(0));
        due(9, x.count(1));
        due(4, x.count(5));
        due(0, x.count(2));
        due(MaskHall.DONE, x.greet(0, 1));
        due(10, x.count(0));
        due(1, x.count(2));
        due(0, x.count(3));
        due(7, x.count(4));
        x.ill(1);
        due(5, x.count(4));
        x.ill(1);
        due(5, x.count(5));
        x.night(10);
        due(0, x.count(4));
        due(0, x.count(5));
        due(9, x.count(1));
        enterAll(x, 0, 1, 2);
        due(4, x.play(0, 2));
        x.greet(0, 2);
        x.greet(0, 2);
        due(MaskHall.LATE, x.state());
        due(10, x.count(0));
        due(13, x.count(1));
        due(1, x.count(2));
        due(1, x.count(3));
        due(7, x.count(4));
        due(5, x.count(5));
    }

    private static void share() {
        MaskHall x = meeting(10);
        dueThrow(INDEX, () -> x.share(-1));
        dueThrow(INDEX, () -> x.share(6));
        due(0.0, x.share(0));
        x.gag(1, 1000, -1);
        x.enter(0);
        x.play(0, 0);
        due(1000.0 * 1 / 6, x.share(5));
        x.points(5, 100);
        due(1000.0 * 100 / 105, x.share(5));
        due(1000.0 / 105, x.share(0));
        x.points(0, 0);
        due(0.0, x.share(0));
        for (int m = 0; m < 6; m++) {
            x.points(m, 0);
        }
        due(0.0, x.share(5));
        x.points(2, 1);
        due(1000.0, x.share(2));
        enterAll(x, 4, 5);
        x.greet(4, 5);
        due(1000.0, x.share(2));
        x.night(5);
        x.enter(0);
        x.play(0, 0);
        due(1500.0, x.share(2));
    }
}
