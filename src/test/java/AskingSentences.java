/** Promises 19 to 27: what can be asked. */
final class AskingSentences extends Sentences {
    AskingSentences(Report report) {
        super(report);
    }

    @Override
    void run() {
        state();
        next();
        can();
        ways();
        isKnown();
        holder();
        countsOfTheNight();
        countsOfAllNights();
        whoIsOn();
        share();
    }

    private void state() {
        in("Promise 19");
        test("NO_NIGHT ahead of the first one", "whatever was told", () -> {
            due(MaskHall.NO_NIGHT, new MaskHall().state());
            due(MaskHall.NO_NIGHT, full().state());
            MaskHall x = full();
            refuses(ARGUMENT, () -> x.night(0));
            due(MaskHall.NO_NIGHT, x.state());
        });
        test("otherwise what that of now, or the last one, is", "PLAYS, CLOSED, LATE, and PLAYS again", () -> {
            MaskHall x = begun(2, enters(0), enters(1));
            due(MaskHall.PLAYS, x.state());
            come(x, 0, 1);
            due(MaskHall.CLOSED, x.state());
            x.night(1);
            due(MaskHall.PLAYS, x.state());
            come(x, 0);
            due(MaskHall.LATE, x.state());
            x.night(2);
            due(MaskHall.PLAYS, x.state());
        });
        test("otherwise what that of now, or the last one, is", "whatever becomes of the canvas and the town then", () -> {
            for (int night : new int[] {MaskHall.CLOSED, MaskHall.LATE}) {
                MaskHall x = troupe(night);
                x.travel();
                due(night, x.state());
                x.tear();
                due(night, x.state());
                x.step(MaskHall.ENTER, 0, 1, 0);
                due(night, x.state());
            }
        });
    }

    private void next() {
        in("Promise 20");
        test("Returns the next step of the night, from 0", "0 to 11 of twelve", () -> {
            MaskHall x = full();
            x.night(50);
            for (int step = 0; step < 12; step++) {
                due(step, x.next());
                come(x, 0);
                due(step, x.next());
                x.exit(0);
            }
        });
        test("or what it was as that ended, whatever becomes of the canvas then", "LATE: torn, and told anew", () -> {
            MaskHall x = troupe(MaskHall.LATE);
            due(2, x.next());
            x.tear();
            due(2, x.next());
            x.step(MaskHall.ENTER, 0, 1, 0);
            due(2, x.next());
            x.night(9);
            due(0, x.next());
        });
        test("or what it was as that ended, whatever becomes of the canvas then", "LATE ahead of the first step", () -> {
            MaskHall x = begun(1, enters(0));
            come(x, 1);
            due(0, x.next());
            x.tear();
            due(0, x.next());
        });
        test("as many as there were steps, if it is CLOSED", "one, and twelve", () -> {
            MaskHall x = begun(9, enters(0));
            come(x, 0);
            due(1, x.next());
            MaskHall y = full();
            y.night(50);
            for (int i = 0; i < 12; i++) {
                come(y, 0);
                y.exit(0);
            }
            due(12, y.next());
        });
        test("as many as there were steps, if it is CLOSED", "whatever becomes of the canvas then", () -> {
            MaskHall x = troupe(MaskHall.CLOSED);
            due(2, x.next());
            x.step(MaskHall.MEET, 0, 1, 0);
            due(2, x.next());
            x.tear();
            due(2, x.next());
        });
        test("-1 if no night was", "whatever was told", () -> {
            due(-1, new MaskHall().next());
            due(-1, full().next());
            MaskHall x = full();
            x.tear();
            due(-1, x.next());
        });
    }

    private void can() {
        in("Promise 21");
        test("Returns whether the plot can be closed", "it can, it cannot", () -> {
            due(true, zeroKnows(9, tells(0, 1, 0)).can());
            due(false, begun(9, tells(0, 1, 0)).can());
        });
        test("false if no night PLAYS", "ahead of the first one, CLOSED, LATE", () -> {
            due(true, troupe(MaskHall.PLAYS).can());
            for (MaskHall x : notPlaying()) {
                due(false, x.can());
            }
            due(false, new MaskHall().can());
        });
    }

    private void ways() {
        in("Promise 22");
        test("Returns the way to the next step.", "none, the shortest, the longest", () -> {
            due(-1, new MaskHall().way());
            due(-1, begun(9, tells(1, 2, 0)).way());
            due(1, begun(9, enters(0)).way());
            due(5, zeroKnows(9, tells(1, 2, 0)).way());
            due(5, propIsWith(5, 9, gives(0, 1, 0)).way());
        });
        in("Promise 23");
        test("Returns the same, by trying all moves.", "none, the shortest, the longest", () -> {
            due(-1, new MaskHall().wayAnew());
            due(-1, begun(9, tells(1, 2, 0)).wayAnew());
            due(1, begun(9, enters(0)).wayAnew());
            due(5, zeroKnows(9, tells(1, 2, 0)).wayAnew());
            due(5, propIsWith(5, 9, gives(0, 1, 0)).wayAnew());
        });
        test("Returns the same, by trying all moves.", "whoever is on, whoever knows or has it", () -> {
            for (int kind = MaskHall.TELL; kind <= MaskHall.MEET; kind++) {
                for (int on = 0; on < 64; on++) {
                    for (int mask = 0; mask < 6; mask++) {
                        MaskHall x = sceneOf(kind, on, mask);
                        due(x.way(), x.wayAnew());
                        due(true, x.wayAnew() != 0 && x.wayAnew() <= 5);
                    }
                }
            }
        });
    }

    /** That step of 0 and 1 is next, these masks are on, and that one knows its secret and has its prop. */
    private static MaskHall sceneOf(int kind, int on, int mask) {
        MaskHall x = told(exits(5));
        x.step(kind, 0, 1, 2);
        x.knows(mask, 2, true);
        x.has(2, mask);
        x.night(50);
        come(x, 5);
        x.exit(5);
        for (int m = 0; m < 6; m++) {
            if ((on >> m & 1) == 1 && !(kind == MaskHall.ENTER && m == 0)) {
                x.enter(m);
            }
        }
        return x;
    }

    private void isKnown() {
        in("Promise 24");
        test("in the night of now, or the last one", "told in it, and still as it has ended", () -> {
            MaskHall x = zeroKnows(4, meets(4, 5));
            due(false, x.isKnown(1, 0));
            come(x, 0, 1);
            x.tell(0, 1, 0);
            due(true, x.isKnown(1, 0));
            come(x, 2);
            due(MaskHall.LATE, x.state());
            due(true, x.isKnown(1, 0));
        });
        test("ahead of the first one as at the beginning", "as it was told at last", () -> {
            MaskHall x = new MaskHall();
            due(false, x.isKnown(2, 1));
            x.knows(2, 1, true);
            due(true, x.isKnown(2, 1));
            x.knows(2, 1, false);
            due(false, x.isKnown(2, 1));
        });
        test("- `mask`: 0 to 5", "both sides of both bounds", () ->
                bounds(INDEX, 0, 5, mask -> due(false, new MaskHall().isKnown(mask, 0))));
        test("- `secret`: 0 to 3", "both sides of both bounds", () ->
                bounds(INDEX, 0, 3, secret -> due(false, new MaskHall().isKnown(0, secret))));
        test("Returns whether it does.", "each mask and secret by itself", () -> {
            MaskHall x = allOn(4);
            for (int i = 0; i < 24; i++) {
                due(i / 4 == 4, x.isKnown(i / 4, i % 4));
            }
        });
        test("if there is no such mask or secret", "ahead of a night, and in one", () -> {
            for (int night = MaskHall.NO_NIGHT; night <= MaskHall.LATE; night++) {
                MaskHall x = troupe(night);
                refuses(INDEX, () -> x.isKnown(-1, 0));
                refuses(INDEX, () -> x.isKnown(6, 0));
                refuses(INDEX, () -> x.isKnown(0, -1));
                refuses(INDEX, () -> x.isKnown(0, 4));
            }
        });
    }

    private void holder() {
        in("Promise 25");
        test("Returns who has a prop, likewise.", "in the night of now, and still as it has ended", () -> {
            MaskHall x = propIsWith(0, 4, meets(4, 5));
            due(0, x.holder(0));
            come(x, 0, 1);
            x.give(0, 1, 0);
            due(1, x.holder(0));
            x.take(0, 1);
            due(MaskHall.LATE, x.state());
            due(1, x.holder(0));
            due(0, x.holder(1));
        });
        test("Returns who has a prop, likewise.", "ahead of the first night as it was told at last", () -> {
            MaskHall x = new MaskHall();
            x.has(3, 5);
            due(5, x.holder(3));
            x.has(3, 0);
            due(0, x.holder(3));
        });
        test("- `prop`: 0 to 3", "both sides of both bounds", () ->
                bounds(INDEX, 0, 3, prop -> due(-1, new MaskHall().holder(prop))));
        test("-1 if it lies about", "mask 0 has it, and nobody does", () -> {
            MaskHall x = begun(9, meets(4, 5));
            due(-1, x.holder(0));
            come(x, 0);
            x.take(0, 0);
            due(0, x.holder(0));
            due(-1, x.holder(1));
        });
        test("if there is no such prop", "ahead of a night, and in one", () -> {
            for (int night = MaskHall.NO_NIGHT; night <= MaskHall.LATE; night++) {
                MaskHall x = troupe(night);
                refuses(INDEX, () -> x.holder(-1));
                refuses(INDEX, () -> x.holder(4));
            }
        });
    }

    private void countsOfTheNight() {
        in("Promise 26");
        test("Counts something.", "nothing is there to be counted", () ->
                bounds(ARGUMENT, 0, 5, what -> due(0, new MaskHall().count(what))));
        test("0 the minutes that have gone by in the night of now, or the last one", "moves and gags; as it ended; anew", () -> {
            MaskHall x = troupe(MaskHall.PLAYS);
            x.gag(20, 0, MaskHall.NONE);
            due(2, x.count(0));
            x.play(1, 0);
            due(22, x.count(0));
            x.play(1, 0);
            x.play(1, 0);
            due(50, x.count(0));
            x.tear();
            due(50, x.count(0));
            x.step(MaskHall.MEET, 4, 5, 0);
            x.night(9);
            due(0, x.count(0));
        });
        test("0 the minutes that have gone by in the night of now, or the last one", "CLOSED: those that have gone by, not all", () -> {
            MaskHall x = begun(30, enters(0));
            come(x, 1, 0);
            due(MaskHall.CLOSED, x.state());
            due(2, x.count(0));
        });
        test("5 the moves of the night of now, or the last one, that were TAKEN or DONE", "not those BLOCKED or refused, nor gags", () -> {
            MaskHall x = zeroKnows(30, enters(0), meets(4, 5), tells(0, 1, 0));
            x.gag(5, 1, MaskHall.NONE);
            due(MaskHall.DONE, x.enter(0));
            due(MaskHall.TAKEN, x.enter(1));
            due(2, x.count(5));
            due(MaskHall.BLOCKED, x.tell(0, 1, 0));
            refuses(STATE, () -> x.enter(1));
            x.play(0, 0);
            x.ill(3);
            due(2, x.count(5));
            due(7, x.count(0));
            x.exit(1);
            due(3, x.count(5));
        });
        test("5 the moves of the night of now, or the last one, that were TAKEN or DONE", "as it ended, and anew", () -> {
            for (int night : new int[] {MaskHall.CLOSED, MaskHall.LATE}) {
                MaskHall x = troupe(night);
                due(2, x.count(5));
                x.tear();
                x.step(MaskHall.MEET, 4, 5, 0);
                due(2, x.count(5));
                x.night(9);
                due(0, x.count(5));
            }
        });
        test("if what is out of range", "one below, one above", () -> {
            refuses(ARGUMENT, () -> new MaskHall().count(-1));
            refuses(ARGUMENT, () -> new MaskHall().count(6));
        });
    }

    private void countsOfAllNights() {
        in("Promise 26");
        test("1 all laughs of all nights", "of two nights, and of two towns", () -> {
            MaskHall x = begun(2, meets(4, 5));
            x.gag(1, 1000, MaskHall.NONE);
            come(x, 0);
            x.play(0, 0);
            due(1000, x.count(1));
            x.night(3);
            come(x, 0);
            x.play(0, 0);
            due(1500, x.count(1));
            x.play(0, 0);
            due(1750, x.count(1));
            x.travel();
            x.night(9);
            come(x, 0);
            due(1750, x.count(1));
            x.play(0, 0);
            due(2750, x.count(1));
        });
        test("2 the nights that were CLOSED, 3 those that were LATE", "each by itself, and not the one that PLAYS", () -> {
            MaskHall x = told(enters(0));
            for (int i = 1; i <= 3; i++) {
                x.night(1);
                due(i - 1, x.count(2));
                due(i - 1, x.count(3));
                come(x, 0);
                due(i, x.count(2));
                due(i - 1, x.count(3));
                x.night(1);
                come(x, 1);
                due(i, x.count(2));
                due(i, x.count(3));
            }
            x.travel();
            x.tear();
            due(3, x.count(2));
            due(3, x.count(3));
        });
        test("Returns that.", "the last step in the last minute counts as CLOSED alone", () -> {
            MaskHall x = begun(1, enters(0));
            come(x, 0);
            due(1, x.count(2));
            due(0, x.count(3));
        });
    }

    private void whoIsOn() {
        in("Promise 26");
        test("4 who is on, or was as the night ended", "nobody, one, all; CLOSED, LATE; anew", () -> {
            due(0, begun(9, meets(4, 5)).count(4));
            due(63, allOn(0).count(4));
            for (int night : new int[] {MaskHall.CLOSED, MaskHall.LATE}) {
                MaskHall x = troupe(night);
                due(3, x.count(4));
                x.tear();
                x.travel();
                due(3, x.count(4));
                x.step(MaskHall.MEET, 4, 5, 0);
                x.night(9);
                due(0, x.count(4));
            }
        });
        test("(but those who are ill since)", "fallen ill as the night had ended, on or off", () -> {
            for (int night : new int[] {MaskHall.CLOSED, MaskHall.LATE}) {
                MaskHall x = troupe(night);
                x.ill(5);
                due(3, x.count(4));
                x.ill(0);
                due(2, x.count(4));
                x.ill(1);
                due(0, x.count(4));
                x.ill(5);
                due(0, x.count(4));
            }
        });
        test("(but those who are ill since)", "who falls ill goes off the stage, and being well again is no coming on", () -> {
            for (int night : new int[] {MaskHall.PLAYS, MaskHall.CLOSED, MaskHall.LATE}) {
                MaskHall x = troupe(night);
                x.ill(0);
                x.ill(0);
                due(2, x.count(4));
            }
        });
        test("as a set", "2 to the power of each", () -> {
            MaskHall x = allOn(0);
            for (int mask = 0; mask < 5; mask++) {
                x.exit(mask);
                due(62 - (2 << mask) + 2, x.count(4));
            }
        });
        test("- `what`: 0 the minutes", "both sides of both bounds", () -> {
            MaskHall x = troupe(MaskHall.PLAYS);
            int[] due = {2, 0, 0, 0, 3, 2};
            bounds(ARGUMENT, 0, 5, what -> {
                int got = x.count(what);
                due(due[what], got);
            });
        });
    }

    private void share() {
        in("Promise 27");
        test("Returns the share of a mask of all laughs of all nights.", "of two nights", () -> {
            MaskHall x = begun(2, meets(4, 5));
            x.gag(1, 999, MaskHall.NONE);
            come(x, 0);
            x.play(0, 0);
            due(999.0 / 6.0, x.share(3));
            x.night(9);
            come(x, 0);
            x.play(0, 0);
            due(1498.0 / 6.0, x.share(3));
        });
        test("Returns the share of a mask of all laughs of all nights.", "whoever was on: points alone count", () -> {
            MaskHall x = troupe(MaskHall.PLAYS);
            x.play(0, 0);
            for (int mask = 0; mask < 6; mask++) {
                x.points(mask, mask == 5 ? 3 : 0);
            }
            due(0.0, x.share(0));
            due(8.0, x.share(5));
        });
        test("- `mask`: 0 to 5", "both sides of both bounds", () ->
                bounds(INDEX, 0, 5, mask -> due(0.0, new MaskHall().share(mask))));
        test("Returns the share; 0 if nobody has points.", "nobody has, one has one", () -> {
            MaskHall x = troupe(MaskHall.PLAYS);
            x.play(0, 0);
            for (int mask = 0; mask < 6; mask++) {
                x.points(mask, 0);
            }
            for (int mask = 0; mask < 6; mask++) {
                due(0.0, x.share(mask));
            }
            x.points(5, 1);
            due(0.0, x.share(0));
            due(8.0, x.share(5));
        });
        test("Returns the share; 0 if nobody has points.", "all have the most, and there are no laughs", () -> {
            MaskHall x = troupe(MaskHall.PLAYS);
            for (int mask = 0; mask < 6; mask++) {
                x.points(mask, 100);
            }
            due(0.0, x.share(0));
            x.play(0, 0);
            due(800.0 / 600.0, x.share(0));
        });
        test("if there is no such mask", "also if nobody has points", () -> {
            MaskHall x = new MaskHall();
            for (int mask = 0; mask < 6; mask++) {
                x.points(mask, 0);
            }
            refuses(INDEX, () -> x.share(-1));
            refuses(INDEX, () -> x.share(6));
        });
    }
}
