/** The plot that can be closed, moves that are blocked, and the way to the next step. */
final class PlotSentences extends Sentences {
    PlotSentences(Report report) {
        super(report);
    }

    @Override
    void run() {
        in("Moves");
        plotInOrder();
        masksOfThePlot();
        tellingsOfThePlot();
        hearingAhead();
        givingsOfThePlot();
        blockedMoves();
        in("The way");
        waysOfTellings();
        waysOfGivings();
        waysOfTheOthers();
        noWay();
    }

    /** Both ways of finding it must answer that. */
    private void dueWay(int want, MaskHall x) {
        due(want, x.way());
        due(want, x.wayAnew());
    }

    // ---- the plot

    private void plotInOrder() {
        test("The plot can be closed, as things are", "things change, and change back", () -> {
            MaskHall x = zeroKnows(30, tells(0, 1, 0));
            due(true, x.can());
            x.ban(0);
            due(false, x.can());
            x.ban(0);
            due(true, x.can());
            x.ill(1);
            due(false, x.can());
            x.ill(1);
            due(true, x.can());
            x.knows(0, 0, false);
            due(true, x.can());
        });
        test("if all steps that are not done could be done in their order", "a step that is done matters no more", () -> {
            MaskHall x = zeroKnows(30, tells(0, 1, 0), gives(0, 2, 0), enters(3), meets(4, 5));
            come(x, 0, 1, 2);
            x.tell(0, 1, 0);
            x.ban(0);
            x.ill(1);
            due(true, x.can());
            x.take(0, 0);
            x.give(0, 2, 0);
            x.ill(0);
            x.ill(2);
            due(true, x.can());
            x.enter(3);
            x.ill(3);
            due(true, x.can());
        });
        test("if all steps that are not done could be done in their order", "the last of twelve cannot be", () -> {
            MaskHall x = told(exits(0), exits(0), exits(0), exits(0), exits(0), exits(0),
                    exits(0), exits(0), exits(0), exits(0), exits(0));
            x.step(MaskHall.TELL, 0, 1, 0);
            x.night(30);
            due(false, x.can());
            MaskHall y = told(exits(0), exits(0), exits(0), exits(0), exits(0), exits(0),
                    exits(0), exits(0), exits(0), exits(0), exits(0));
            y.step(MaskHall.TELL, 0, 1, 0);
            y.knows(5, 0, true);
            y.night(30);
            due(true, y.can());
        });
        test("in their order", "the same two tellings one way round, and the other", () -> {
            due(true, zeroKnows(30, tells(0, 1, 0), tells(1, 2, 0)).can());
            due(false, zeroKnows(30, tells(1, 2, 0), tells(0, 1, 0)).can());
        });
        test("with free moves between", "comings, goings and takings are not missing", () -> {
            due(true, begun(30, enters(0), enters(0), exits(0), exits(0), meets(0, 1), gives(1, 2, 3)).can());
        });
    }

    private void masksOfThePlot() {
        test("nobody in them is ill", "a or b of TELL, GIVE and MEET, and nobody else", () -> {
            int[][] steps = {tells(0, 1, 0), gives(0, 1, 0), meets(0, 1)};
            for (int[] step : steps) {
                for (int mask = 0; mask < 6; mask++) {
                    MaskHall x = zeroKnows(30, step);
                    x.ill(mask);
                    due(mask > 1, x.can());
                }
            }
        });
        test("nobody in them is ill", "of a step further on", () -> {
            MaskHall x = begun(30, enters(0), exits(0), meets(2, 3));
            x.ill(3);
            due(false, x.can());
            x.ill(3);
            x.ill(2);
            due(false, x.can());
            x.ill(2);
            due(true, x.can());
        });
        test("(of ENTER and EXIT: a is not)", "a is ill, b is ill", () -> {
            for (int kind : new int[] {MaskHall.ENTER, MaskHall.EXIT}) {
                MaskHall x = new MaskHall();
                x.step(kind, 0, 1, 0);
                x.night(30);
                x.ill(1);
                due(true, x.can());
                x.ill(0);
                due(false, x.can());
            }
        });
    }

    private void tellingsOfThePlot() {
        test("of each TELL the secret is not banned", "that one, and another one", () -> {
            MaskHall x = zeroKnows(30, meets(4, 5), tells(0, 1, 0));
            for (int secret = 1; secret < 4; secret++) {
                x.ban(secret);
            }
            due(true, x.can());
            x.ban(0);
            due(false, x.can());
        });
        test("of each TELL the secret is not banned", "the something of another kind of step is no secret", () -> {
            MaskHall x = begun(30, gives(0, 1, 0), meets(0, 1), enters(0), exits(0));
            x.ban(0);
            due(true, x.can());
        });
        test("b does not know it ahead of it", "b knows it at the beginning", () -> {
            MaskHall x = told(tells(0, 1, 0));
            x.knows(0, 0, true);
            x.knows(1, 1, true);
            x.night(1);
            due(true, x.can());
            come(x, 5);
            x.knows(1, 0, true);
            x.night(1);
            due(false, x.can());
        });
        test("b does not know it ahead of it", "b is told it by an earlier step", () -> {
            due(false, zeroKnows(30, tells(0, 1, 0), tells(0, 1, 0)).can());
            due(false, zeroKnows(30, tells(0, 1, 0), tells(0, 2, 0), tells(2, 1, 0)).can());
            due(true, zeroKnows(30, tells(0, 1, 0), tells(0, 2, 0), tells(2, 3, 0)).can());
        });
        test("b does not know it ahead of it", "b is told another secret by an earlier step", () -> {
            MaskHall x = told(tells(0, 1, 0), tells(0, 1, 1));
            x.knows(0, 0, true);
            x.knows(0, 1, true);
            x.night(30);
            due(true, x.can());
        });
        test("and a knows it by then", "at the beginning, by a move, by an earlier step", () -> {
            due(true, zeroKnows(30, tells(0, 1, 0)).can());
            due(true, zeroKnows(30, tells(0, 1, 0), tells(1, 2, 0), tells(2, 3, 0), tells(3, 4, 0)).can());
            MaskHall x = zeroKnows(30, tells(1, 2, 0));
            come(x, 0, 1);
            x.tell(0, 1, 0);
            x.ill(0);
            due(true, x.can());
        });
        test("and a knows it by then", "a later step is too late", () ->
                due(false, zeroKnows(30, tells(1, 2, 0), meets(3, 4), tells(0, 1, 0)).can()));
        test("Only what steps, and such tellings to a, make known is known by then besides.", "nobody knows it", () -> {
            due(false, begun(30, tells(0, 1, 0)).can());
            due(false, zeroKnows(30, tells(0, 1, 1)).can());
        });
        test("Only what steps, and such tellings to a, make known is known by then besides.", "who heard it from a telling ahead tells it on", () ->
                due(true, zeroKnows(30, tells(1, 2, 0), tells(1, 3, 0), tells(2, 4, 0)).can()));
        test("The light does not matter for that, nor for the way.", "more steps, and a longer way, than minutes", () -> {
            MaskHall x = zeroKnows(1, tells(1, 2, 0), meets(3, 4), meets(4, 5));
            due(true, x.can());
            dueWay(5, x);
        });
    }

    private void hearingAhead() {
        test("or somebody who is well and knows it by then can tell it to a", "somebody in no step, well and ill", () -> {
            MaskHall x = told(tells(0, 1, 0));
            x.knows(5, 0, true);
            x.night(30);
            due(true, x.can());
            x.ill(5);
            due(false, x.can());
        });
        test("or somebody who is well and knows it by then can tell it to a", "one of two is ill, and both are", () -> {
            MaskHall x = told(tells(0, 1, 0));
            x.knows(4, 0, true);
            x.knows(5, 0, true);
            x.night(30);
            x.ill(5);
            due(true, x.can());
            x.ill(4);
            due(false, x.can());
            x.ill(5);
            due(true, x.can());
        });
        test("or somebody who is well and knows it by then can tell it to a", "an ill one need not tell it if a knows it", () -> {
            MaskHall x = told(tells(0, 1, 0));
            x.knows(5, 0, true);
            x.knows(0, 0, true);
            x.night(30);
            x.ill(5);
            due(true, x.can());
        });
        test("or somebody who is well and knows it by then can tell it to a", "somebody who learns it by an earlier step", () ->
                due(true, zeroKnows(30, tells(0, 1, 0), tells(4, 5, 0)).can()));
        test("which is possible if a is b of no later TELL of that secret", "of that secret, and of another one", () -> {
            MaskHall x = told(tells(1, 2, 0), tells(0, 1, 0));
            x.knows(0, 0, true);
            x.night(30);
            due(false, x.can());
            MaskHall y = told(tells(1, 2, 0), tells(0, 1, 1));
            y.knows(0, 0, true);
            y.knows(0, 1, true);
            y.night(30);
            due(true, y.can());
        });
        test("which is possible if a is b of no later TELL of that secret", "of an earlier one, and of a later GIVE or MEET", () -> {
            due(true, zeroKnows(30, tells(0, 1, 0), tells(1, 2, 0)).can());
            due(true, zeroKnows(30, tells(1, 2, 0), gives(0, 1, 0), meets(0, 1)).can());
        });
        test("which is possible if a is b of no later TELL of that secret", "the last of twelve", () -> {
            int[] m = meets(4, 5);
            due(false, zeroKnows(30, tells(1, 2, 0), m, m, m, m, m, m, m, m, m, m, tells(0, 1, 0)).can());
            due(true, zeroKnows(30, tells(1, 2, 0), m, m, m, m, m, m, m, m, m, m, tells(0, 3, 0)).can());
        });
    }

    private void givingsOfThePlot() {
        test("of each GIVE whoever has the prop by then is well", "a, b, and each that is neither", () -> {
            for (int holder = 0; holder < 6; holder++) {
                for (int a = 0; a < 6; a++) {
                    MaskHall x = propIsWith(holder, 30, gives(a, (a + 1) % 6, 0));
                    due(true, x.can());
                    x.ill(holder);
                    due(false, x.can());
                    x.ill(holder);
                    due(true, x.can());
                }
            }
        });
        test("of each GIVE whoever has the prop by then is well", "one who is ill has another prop", () -> {
            MaskHall x = told(gives(0, 1, 0));
            x.has(1, 5);
            x.night(30);
            x.ill(5);
            due(true, x.can());
        });
        test("of each GIVE whoever has the prop by then is well", "an earlier step gives it to another one", () -> {
            MaskHall x = propIsWith(5, 30, gives(5, 1, 0), meets(2, 3), gives(3, 4, 0));
            come(x, 5, 1);
            x.give(5, 1, 0);
            x.ill(5);
            due(true, x.can());
            x.ill(1);
            due(false, x.can());
        });
        test("of each GIVE whoever has the prop by then is well", "one who is ill has it ahead of the first of two", () -> {
            MaskHall x = propIsWith(5, 30, gives(0, 1, 0), gives(2, 3, 0));
            x.ill(5);
            due(false, x.can());
        });
        test("or it lies about", "it does, though everybody in no step is ill", () -> {
            for (int prop = 0; prop < 4; prop++) {
                MaskHall x = begun(30, gives(0, 1, prop));
                for (int mask = 2; mask < 6; mask++) {
                    x.ill(mask);
                }
                due(true, x.can());
                dueWay(4, x);
            }
        });
    }

    // ---- moves that are blocked

    private void blockedMoves() {
        test("A move by which the plot, that could be closed, could not be any more, is blocked", "somebody else tells it to b of the next step", () -> {
            MaskHall x = told(tells(0, 1, 0));
            x.knows(0, 0, true);
            x.knows(2, 0, true);
            x.night(30);
            come(x, 0, 1, 2);
            due(MaskHall.BLOCKED, x.tell(2, 1, 0));
            due(MaskHall.DONE, x.tell(0, 1, 0));
        });
        test("A move by which the plot, that could be closed, could not be any more, is blocked", "the telling of a later step, ahead of its time", () -> {
            MaskHall x = zeroKnows(30, meets(4, 5), tells(0, 1, 0));
            come(x, 0, 1, 4, 5);
            due(MaskHall.BLOCKED, x.tell(0, 1, 0));
            due(MaskHall.DONE, x.greet(4, 5));
            due(MaskHall.DONE, x.tell(0, 1, 0));
        });
        test("A move by which the plot, that could be closed, could not be any more, is blocked", "b of the last of twelve", () -> {
            int[] m = meets(4, 5);
            MaskHall x = zeroKnows(30, m, m, m, m, m, m, m, m, m, m, m, tells(0, 1, 0));
            come(x, 0, 1, 2);
            due(MaskHall.BLOCKED, x.tell(0, 1, 0));
            due(MaskHall.TAKEN, x.tell(0, 2, 0));
        });
        test("A move by which the plot, that could be closed, could not be any more, is blocked", "not a telling to another one, or of another secret", () -> {
            MaskHall x = told(meets(4, 5), tells(0, 1, 0));
            x.knows(0, 0, true);
            x.knows(0, 1, true);
            x.night(30);
            come(x, 0, 1, 2);
            due(MaskHall.TAKEN, x.tell(0, 2, 0));
            due(MaskHall.TAKEN, x.tell(0, 1, 1));
            due(MaskHall.BLOCKED, x.tell(2, 1, 0));
        });
        test("A move by which the plot, that could be closed, could not be any more, is blocked", "not when that step is done", () -> {
            MaskHall x = zeroKnows(30, tells(0, 1, 0), meets(4, 5));
            come(x, 0, 1, 2);
            due(MaskHall.TAKEN, x.tell(0, 2, 0));
            due(MaskHall.DONE, x.tell(0, 1, 0));
            due(MaskHall.TAKEN, x.tell(2, 1, 0));
        });
        test("the plot, that could be closed", "it could not be closed before: the same telling is TAKEN", () -> {
            MaskHall x = zeroKnows(30, meets(4, 5), tells(0, 1, 0));
            come(x, 0, 1);
            x.ill(5);
            due(MaskHall.TAKEN, x.tell(0, 1, 0));
            due(true, x.isKnown(1, 0));
            x.ill(5);
            due(false, x.can());
        });
        test("the plot, that could be closed", "b knew it before: to tell it anew is TAKEN", () -> {
            MaskHall x = told(tells(0, 1, 0));
            x.knows(0, 0, true);
            x.knows(1, 0, true);
            x.night(30);
            come(x, 0, 1);
            due(MaskHall.TAKEN, x.tell(0, 1, 0));
            due(MaskHall.TAKEN, x.tell(1, 0, 0));
        });
        test("is blocked: nothing happens, and no minute goes by", "all that can be asked, or found out, stays", () -> {
            due(Probe.everything(spoilable()), Probe.everything(blocked()));
        });
        test("and no minute goes by", "ten times in the last minute", () -> {
            MaskHall x = zeroKnows(3, meets(4, 5), tells(0, 1, 0));
            come(x, 0, 1);
            for (int i = 0; i < 10; i++) {
                due(MaskHall.BLOCKED, x.tell(0, 1, 0));
            }
            due(2, x.count(0));
            due(2, x.count(5));
            due(false, x.isKnown(1, 0));
            due(MaskHall.PLAYS, x.state());
        });
    }

    private static MaskHall spoilable() {
        MaskHall x = Probe.told();
        x.night(50);
        come(x, 0, 1, 2, 3);
        x.tell(0, 2, 0);
        return x;
    }

    private MaskHall blocked() {
        MaskHall x = spoilable();
        due(MaskHall.BLOCKED, x.tell(2, 1, 0));
        due(MaskHall.BLOCKED, x.tell(0, 3, 0));
        return x;
    }

    // ---- the way

    private void waysOfTellings() {
        test("The way to the next step is the least number of moves, that step with them", "TELL, a knows it: one to three", () -> {
            MaskHall x = zeroKnows(30, tells(0, 1, 0));
            dueWay(3, x);
            come(x, 0);
            dueWay(2, x);
            come(x, 1);
            dueWay(1, x);
            x.exit(0);
            dueWay(2, x);
        });
        test("The way to the next step is the least number of moves, that step with them", "TELL, a must hear it: two to five", () -> {
            MaskHall x = zeroKnows(30, tells(1, 2, 0));
            dueWay(5, x);
            come(x, 3);
            dueWay(5, x);
            come(x, 0);
            dueWay(4, x);
            come(x, 1);
            dueWay(3, x);
            come(x, 2);
            dueWay(2, x);
            x.exit(0);
            dueWay(3, x);
        });
        test("by which it comes to be done, if the plot can be closed", "TELL, who is ill can't help", () -> {
            MaskHall x = told(tells(1, 2, 0));
            x.knows(0, 0, true);
            x.knows(3, 0, true);
            x.night(30);
            come(x, 0, 1, 2);
            dueWay(2, x);
            x.ill(0);
            dueWay(3, x);
            x.ill(3);
            dueWay(-1, x);
        });
        test("none tells a secret to b of a step that is not done of the kind TELL with that secret", "b of this step, and of others, are left out", () -> {
            MaskHall x = told(tells(1, 2, 0), tells(0, 3, 0), tells(0, 4, 0), tells(0, 5, 0));
            x.knows(0, 0, true);
            x.night(30);
            dueWay(5, x);
            come(x, 0, 1, 2, 3, 4, 5);
            dueWay(2, x);
            due(MaskHall.BLOCKED, x.tell(0, 2, 0));
            due(MaskHall.BLOCKED, x.tell(0, 3, 0));
            due(MaskHall.TAKEN, x.tell(0, 1, 0));
            dueWay(1, x);
        });
        test("none tells a secret to b of a step that is not done of the kind TELL with that secret", "that b of another secret hears this one", () -> {
            MaskHall x = told(tells(1, 2, 0), tells(0, 1, 1));
            x.knows(0, 0, true);
            x.knows(0, 1, true);
            x.night(30);
            dueWay(5, x);
            come(x, 0, 1, 2);
            dueWay(2, x);
        });
        test("but that step itself", "the telling of the next step is one of the moves", () -> {
            MaskHall x = zeroKnows(30, tells(0, 1, 0));
            come(x, 0, 1);
            dueWay(1, x);
            due(MaskHall.DONE, x.tell(0, 1, 0));
        });
    }

    private void waysOfGivings() {
        test("The way to the next step is the least number of moves, that step with them", "GIVE, a has it: one to three", () -> {
            MaskHall x = propIsWith(0, 30, gives(0, 1, 0));
            dueWay(3, x);
            come(x, 1);
            dueWay(2, x);
            come(x, 0);
            dueWay(1, x);
        });
        test("The way to the next step is the least number of moves, that step with them", "GIVE, it lies about: two to four", () -> {
            MaskHall x = begun(30, gives(0, 1, 0));
            dueWay(4, x);
            come(x, 0);
            dueWay(3, x);
            come(x, 1);
            dueWay(2, x);
        });
        test("The way to the next step is the least number of moves, that step with them", "GIVE, b has it: two to four", () -> {
            MaskHall x = propIsWith(1, 30, gives(0, 1, 0));
            dueWay(4, x);
            come(x, 1);
            dueWay(3, x);
            come(x, 0);
            dueWay(2, x);
        });
        test("The way to the next step is the least number of moves, that step with them", "GIVE, another one has it: two to five", () -> {
            MaskHall x = propIsWith(5, 30, gives(0, 1, 0));
            dueWay(5, x);
            come(x, 5);
            dueWay(4, x);
            come(x, 0);
            dueWay(3, x);
            come(x, 1);
            dueWay(2, x);
            x.exit(5);
            dueWay(3, x);
        });
    }

    private void waysOfTheOthers() {
        test("The way to the next step is the least number of moves, that step with them", "ENTER: a is off, a is on", () -> {
            MaskHall x = begun(30, exits(0), enters(0));
            come(x, 0);
            x.exit(0);
            dueWay(1, x);
            MaskHall y = begun(30, meets(0, 1), enters(0));
            come(y, 0, 1);
            y.greet(0, 1);
            dueWay(2, y);
        });
        test("The way to the next step is the least number of moves, that step with them", "EXIT: a is on, a is off", () -> {
            MaskHall x = begun(30, exits(0));
            dueWay(2, x);
            come(x, 0);
            dueWay(1, x);
        });
        test("The way to the next step is the least number of moves, that step with them", "MEET: one to three", () -> {
            MaskHall x = begun(30, meets(0, 1));
            dueWay(3, x);
            come(x, 1);
            dueWay(2, x);
            come(x, 0);
            dueWay(1, x);
        });
        test("The way to the next step", "of the next one alone, whatever comes behind it", () -> {
            MaskHall x = zeroKnows(30, enters(0), tells(1, 2, 0), exits(0));
            dueWay(1, x);
            x.enter(0);
            dueWay(4, x);
        });
    }

    private void noWay() {
        test("-1 if the plot cannot be closed", "though the next step itself could be done", () -> {
            MaskHall x = begun(30, enters(0), tells(1, 2, 0));
            dueWay(-1, x);
            MaskHall y = zeroKnows(30, enters(0), meets(4, 5));
            dueWay(1, y);
            y.ill(5);
            dueWay(-1, y);
            y.ill(5);
            dueWay(1, y);
        });
        test("or no night is played", "ahead of the first one, CLOSED, LATE", () -> {
            for (MaskHall x : notPlaying()) {
                dueWay(-1, x);
            }
            dueWay(3, troupe(MaskHall.PLAYS));
            dueWay(-1, new MaskHall());
        });
    }
}
