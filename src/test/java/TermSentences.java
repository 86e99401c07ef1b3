/** "Terms", but for the plot and the way to the next step: see PlotSentences. */
final class TermSentences extends Sentences {
    TermSentences(Report report) {
        super(report);
    }

    @Override
    void run() {
        whatThereIs();
        canvas();
        stepsAndTheirMoves();
        illnessBansAndGags();
        movesThatAreThere();
        moves();
        stepsThatAreDone();
        theEndOfANight();
        playedGags();
        sharesAndSets();
        exceptions();
        constants();
    }

    // ---- before a night

    private void whatThereIs() {
        in("Before a night");
        test("the masks 0 to 5", "0 and 5 are there, -1 and 6 are not", () ->
                bounds(INDEX, 0, 5, mask -> due(1, new MaskHall().points(mask, 1))));
        test("the secrets 0 to 3", "0 and 3 are there, -1 and 4 are not", () ->
                bounds(INDEX, 0, 3, secret -> due(false, new MaskHall().isKnown(0, secret))));
        test("the props 0 to 3", "0 and 3 are there, -1 and 4 are not", () ->
                bounds(INDEX, 0, 3, prop -> due(-1, new MaskHall().holder(prop))));

        test("At the beginning of a night masks know secrets, and have props in hand, as was told", "first night", () -> {
            MaskHall x = told(meets(4, 5));
            x.knows(5, 3, true);
            x.has(3, 5);
            x.night(9);
            for (int mask = 0; mask < 6; mask++) {
                for (int secret = 0; secret < 4; secret++) {
                    due(mask == 5 && secret == 3, x.isKnown(mask, secret));
                }
            }
            for (int prop = 0; prop < 4; prop++) {
                due(prop == 3 ? 5 : -1, x.holder(prop));
            }
        });
        test("At the beginning of a night masks know secrets, and have props in hand, as was told", "what the night before changed is gone", () -> {
            MaskHall x = troupe(MaskHall.PLAYS);
            x.tell(0, 1, 0);
            x.give(0, 1, 0);
            x.take(0, 1);
            while (x.state() == MaskHall.PLAYS) {
                x.greet(0, 1);
            }
            due(true, x.isKnown(1, 0));
            due(1, x.holder(0));
            due(0, x.holder(1));
            x.night(9);
            due(true, x.isKnown(0, 0));
            due(false, x.isKnown(1, 0));
            due(0, x.holder(0));
            due(-1, x.holder(1));
        });
        test("a prop that nobody has lies about", "told of as -1, and never told of", () -> {
            MaskHall x = told(meets(4, 5));
            x.has(0, 3);
            x.has(0, -1);
            x.night(9);
            come(x, 0);
            due(-1, x.holder(0));
            due(MaskHall.TAKEN, x.take(0, 0));
            due(-1, x.holder(1));
            due(MaskHall.TAKEN, x.take(0, 1));
        });
        test("What is told of that counts from the next night on.", "knows, while a night plays", () -> {
            MaskHall x = begun(1, meets(4, 5));
            x.knows(0, 0, true);
            due(false, x.isKnown(0, 0));
            come(x, 0);
            due(false, x.isKnown(0, 0));
            x.night(1);
            due(true, x.isKnown(0, 0));
        });
        test("What is told of that counts from the next night on.", "has, while a night plays", () -> {
            MaskHall x = begun(1, meets(4, 5));
            x.has(0, 2);
            due(-1, x.holder(0));
            come(x, 0);
            due(-1, x.holder(0));
            x.night(1);
            due(2, x.holder(0));
        });
        test("What is told of that counts from the next night on.", "when a night has ended", () -> {
            for (int night : new int[] {MaskHall.CLOSED, MaskHall.LATE}) {
                MaskHall x = troupe(night);
                x.knows(0, 0, false);
                x.has(0, 3);
                due(true, x.isKnown(0, 0));
                due(0, x.holder(0));
                x.night(9);
                due(false, x.isKnown(0, 0));
                due(3, x.holder(0));
            }
        });
    }

    private void canvas() {
        in("Before a night");
        test("A canvas has at most 12 steps", "the twelfth is added, the thirteenth is not", () -> {
            MaskHall x = new MaskHall();
            for (int i = 1; i <= 12; i++) {
                due(i, x.step(MaskHall.MEET, 0, 1, 0));
            }
            refuses(STATE, () -> x.step(MaskHall.MEET, 0, 1, 0));
            refuses(STATE, () -> x.step(MaskHall.MEET, 0, 1, 0));
            due(12, x.tear());
        });
        test("A canvas has at most 12 steps", "all twelve are played", () -> {
            MaskHall x = full();
            x.night(50);
            for (int i = 0; i < 12; i++) {
                due(i, x.next());
                due(MaskHall.PLAYS, x.state());
                come(x, 0);
                due(MaskHall.DONE, x.exit(0));
            }
            due(12, x.next());
            due(MaskHall.CLOSED, x.state());
        });
        test("A canvas has at most 12 steps", "none is a canvas too, but not for a night", () -> {
            MaskHall x = new MaskHall();
            due(0, x.tear());
            refuses(STATE, () -> x.night(1));
        });
        test("each of two masks a and b, unlike", "of each kind", () -> {
            for (int kind = MaskHall.TELL; kind <= MaskHall.MEET; kind++) {
                int k = kind;
                for (int mask = 0; mask < 6; mask++) {
                    int m = mask;
                    refuses(ARGUMENT, () -> new MaskHall().step(k, m, m, 0));
                    due(1, new MaskHall().step(k, m, (m + 1) % 6, 0));
                }
            }
        });
        test("The canvas is told between nights alone.", "not while one plays", () -> {
            MaskHall x = troupe(MaskHall.PLAYS);
            refuses(STATE, () -> x.step(MaskHall.MEET, 0, 1, 0));
            refuses(STATE, x::tear);
        });
        test("The canvas is told between nights alone.", "ahead of the first one, and when one has ended", () -> {
            for (MaskHall x : notPlaying()) {
                int steps = x.state() == MaskHall.CLOSED ? 2 : 3;
                due(steps + 1, x.step(MaskHall.MEET, 0, 1, 0));
                due(steps + 1, x.tear());
            }
        });
    }

    private void stepsAndTheirMoves() {
        in("Before a night");
        test("0 TELL: a tells b a secret", "not the other way round, nor another secret", () -> {
            MaskHall x = told(tells(0, 1, 0));
            x.knows(0, 0, true);
            x.knows(0, 1, true);
            x.knows(1, 1, true);
            x.night(30);
            come(x, 0, 1, 2);
            due(MaskHall.TAKEN, x.tell(0, 1, 1));
            due(MaskHall.TAKEN, x.tell(1, 0, 1));
            due(MaskHall.TAKEN, x.tell(0, 2, 0));
            due(0, x.next());
            due(MaskHall.DONE, x.tell(0, 1, 0));
        });
        test("which b does not know ahead of that", "b knows it: it is no step that can be done", () -> {
            MaskHall x = told(tells(0, 1, 0));
            x.knows(0, 0, true);
            x.knows(1, 0, true);
            x.night(30);
            due(false, x.can());
            come(x, 0, 1);
            due(MaskHall.TAKEN, x.tell(0, 1, 0));
            due(0, x.next());
        });
        test("1 GIVE: a gives b a prop", "not the other way round, nor another prop or mask", () -> {
            MaskHall x = told(gives(0, 1, 0));
            x.has(0, 0);
            x.has(1, 0);
            x.night(30);
            come(x, 0, 1, 2);
            due(MaskHall.TAKEN, x.give(0, 1, 1));
            due(MaskHall.TAKEN, x.give(0, 2, 0));
            due(MaskHall.TAKEN, x.give(2, 1, 0));
            due(MaskHall.TAKEN, x.give(1, 0, 0));
            due(0, x.next());
            due(MaskHall.DONE, x.give(0, 1, 0));
        });
        test("2 ENTER: a comes on the stage", "nobody else, and not a that goes off", () -> {
            MaskHall x = begun(30, exits(1), enters(1));
            come(x, 1);
            due(MaskHall.DONE, x.exit(1));
            due(MaskHall.TAKEN, x.enter(0));
            due(MaskHall.TAKEN, x.exit(0));
            due(1, x.next());
            due(MaskHall.DONE, x.enter(1));
        });
        test("3 EXIT: a goes off it", "nobody else, and not a that comes on", () -> {
            MaskHall x = begun(30, exits(1));
            due(MaskHall.TAKEN, x.enter(0));
            due(MaskHall.TAKEN, x.enter(1));
            due(MaskHall.TAKEN, x.exit(0));
            due(0, x.next());
            due(MaskHall.DONE, x.exit(1));
        });
        test("4 MEET: a and b greet each other", "nobody else does it, nor one of both alone", () -> {
            MaskHall x = begun(30, meets(0, 1));
            come(x, 0, 1, 2, 3);
            due(MaskHall.TAKEN, x.greet(0, 2));
            due(MaskHall.TAKEN, x.greet(2, 0));
            due(MaskHall.TAKEN, x.greet(1, 2));
            due(MaskHall.TAKEN, x.greet(2, 1));
            due(MaskHall.TAKEN, x.greet(2, 3));
            due(0, x.next());
            due(MaskHall.DONE, x.greet(0, 1));
        });
        test("Of ENTER and EXIT b and the something do not matter", "whatever they are", () -> {
            for (int b = 0; b < 5; b++) {
                for (int what = 0; what < 4; what++) {
                    MaskHall x = new MaskHall();
                    x.step(MaskHall.ENTER, 5, b, what);
                    x.step(MaskHall.EXIT, 5, b, what);
                    x.ill(b);
                    x.ban(what);
                    x.night(2);
                    due(true, x.can());
                    due(1, x.way());
                    due(1, x.wayAnew());
                    due(MaskHall.DONE, x.enter(5));
                    due(MaskHall.DONE, x.exit(5));
                }
            }
        });
        test("for anything but what step() throws", "b and the something must be there, and b unlike a", () -> {
            for (int kind : new int[] {MaskHall.ENTER, MaskHall.EXIT}) {
                refuses(INDEX, () -> new MaskHall().step(kind, 0, -1, 0));
                refuses(INDEX, () -> new MaskHall().step(kind, 0, 6, 0));
                refuses(INDEX, () -> new MaskHall().step(kind, 0, 1, -1));
                refuses(INDEX, () -> new MaskHall().step(kind, 0, 1, 4));
                refuses(ARGUMENT, () -> new MaskHall().step(kind, 0, 0, 0));
            }
        });
        test("of MEET the something likewise", "whatever it is, but it must be there", () -> {
            for (int what = 0; what < 4; what++) {
                MaskHall x = new MaskHall();
                x.step(MaskHall.MEET, 0, 1, what);
                x.ban(what);
                x.has(what, 5);
                x.knows(1, what, true);
                x.ill(5);
                x.night(9);
                due(true, x.can());
                due(3, x.way());
                come(x, 0, 1);
                due(MaskHall.DONE, x.greet(0, 1));
            }
            refuses(INDEX, () -> new MaskHall().step(MaskHall.MEET, 0, 1, -1));
            refuses(INDEX, () -> new MaskHall().step(MaskHall.MEET, 0, 1, 4));
        });
    }

    private void illnessBansAndGags() {
        in("Before a night");
        test("A mask may be ill, or well again", "each mask by itself", () -> {
            for (int mask = 0; mask < 6; mask++) {
                MaskHall x = new MaskHall();
                due(true, x.ill(mask));
                due(true, x.ill((mask + 1) % 6));
                due(false, x.ill(mask));
                due(true, x.ill(mask));
            }
        });
        test("who falls ill goes off the stage", "who is on; who is off stays off; nobody else goes", () -> {
            for (int mask = 0; mask < 6; mask++) {
                MaskHall x = allOn(0);
                x.ill(mask);
                due(63 & ~(1 << mask), x.count(4));
                x.ill(mask);
                due(63 & ~(1 << mask), x.count(4));
                x.ill(mask);
                due(63 & ~(1 << mask), x.count(4));
            }
        });
        test("which is no move and does no step", "the next step is the EXIT of it", () -> {
            MaskHall x = begun(9, exits(0));
            come(x, 0);
            x.ill(0);
            due(0, x.count(4));
            due(0, x.next());
            due(MaskHall.PLAYS, x.state());
            due(0, x.count(2));
            x.ill(0);
            due(0, x.next());
            due(2, x.way());
        });
        test("which is no move and does no step", "no minute goes by, not even the last one, and no move is counted", () -> {
            MaskHall x = begun(2, meets(4, 5));
            come(x, 0);
            for (int i = 0; i < 10; i++) {
                x.ill(0);
                x.ill(3);
            }
            due(1, x.count(0));
            due(1, x.count(5));
            due(MaskHall.PLAYS, x.state());
        });
        test("and keeps what it has in hand", "while it is ill, and when it is well again", () -> {
            MaskHall x = propIsWith(0, 9, meets(4, 5));
            come(x, 0, 1);
            x.ill(0);
            due(0, x.holder(0));
            refuses(STATE, () -> x.take(1, 0));
            x.ill(0);
            due(0, x.holder(0));
            come(x, 0);
            due(MaskHall.TAKEN, x.give(0, 1, 0));
        });
        test("A town bans secrets.", "each by itself, and none at first", () -> {
            for (int secret = 0; secret < 4; secret++) {
                MaskHall x = allOn(0);
                x.ban(secret);
                for (int s = 0; s < 4; s++) {
                    int other = s;
                    if (s == secret) {
                        refuses(STATE, () -> x.tell(0, 1, other));
                    } else {
                        due(MaskHall.TAKEN, x.tell(0, 1, other));
                    }
                }
            }
        });
        test("There are at most 6 gags", "the sixth is told, the seventh is not", () -> {
            MaskHall x = new MaskHall();
            for (int i = 0; i < 6; i++) {
                due(i, x.gag(1, i, MaskHall.NONE));
            }
            refuses(STATE, () -> x.gag(1, 1, MaskHall.NONE));
            refuses(STATE, () -> x.gag(1, 1, MaskHall.NONE));
        });
        test("There are at most 6 gags", "all six are played, each with its own wit", () -> {
            MaskHall x = told(meets(4, 5));
            for (int i = 0; i < 6; i++) {
                x.gag(1, 100 + i, MaskHall.NONE);
            }
            x.night(50);
            come(x, 0);
            for (int i = 0; i < 6; i++) {
                due(100 + i, x.play(i, 0));
            }
            refuses(INDEX, () -> x.play(6, 0));
        });
        test("numbered from 0", "the first one, and no other is there", () -> {
            MaskHall x = troupe(MaskHall.PLAYS);
            due(8, x.play(0, 0));
            refuses(INDEX, () -> x.play(1, 0));
            due(1, x.gag(1, 5, MaskHall.NONE));
            due(5, x.play(1, 0));
        });
        test("with a length in minutes, a wit, and a prop that it needs, or none", "each gag its own", () -> {
            MaskHall x = allOn(0);
            x.gag(3, 40, MaskHall.NONE);
            x.gag(5, 60, 2);
            due(60, x.play(1, 0));
            due(11, x.count(0));
            due(40, x.play(0, 1));
            due(14, x.count(0));
            refuses(STATE, () -> x.play(1, 1));
        });
    }

    // ---- moves

    private void movesThatAreThere() {
        in("Moves");
        test("A night has light for some minutes.", "one minute, and a hundred", () -> {
            MaskHall x = begun(1, meets(4, 5));
            due(MaskHall.PLAYS, x.state());
            come(x, 0);
            due(MaskHall.LATE, x.state());
            x.night(100);
            for (int i = 1; i <= 100; i++) {
                due(MaskHall.PLAYS, x.state());
                due(MaskHall.TAKEN, i % 2 == 1 ? x.enter(0) : x.exit(0));
            }
            due(MaskHall.LATE, x.state());
        });
        test("Masks are off the stage at its beginning.", "though they were on as the one before ended", () -> {
            for (int night : new int[] {MaskHall.CLOSED, MaskHall.LATE}) {
                MaskHall x = troupe(night);
                due(3, x.count(4));
                x.night(9);
                due(0, x.count(4));
                due(MaskHall.DONE, x.enter(0));
            }
        });
        test("each of masks that are not ill", "who is ill can't come on, and so makes no move", () -> {
            MaskHall x = allOn(0);
            x.ill(0);
            refuses(STATE, () -> x.enter(0));
            refuses(STATE, () -> x.exit(0));
            refuses(STATE, () -> x.tell(0, 1, 0));
            refuses(STATE, () -> x.tell(1, 0, 0));
            refuses(STATE, () -> x.give(0, 1, 0));
            refuses(STATE, () -> x.take(0, 0));
            refuses(STATE, () -> x.greet(0, 1));
            refuses(STATE, () -> x.greet(1, 0));
            x.ill(0);
            due(MaskHall.TAKEN, x.enter(0));
            due(MaskHall.TAKEN, x.greet(1, 0));
        });
        test("one that is off comes on", "who is on does not", () -> {
            MaskHall x = begun(9, meets(4, 5));
            due(MaskHall.TAKEN, x.enter(0));
            due(1, x.count(4));
            refuses(STATE, () -> x.enter(0));
        });
        test("one that is on goes off", "who is off does not", () -> {
            MaskHall x = begun(9, meets(4, 5));
            refuses(STATE, () -> x.exit(0));
            come(x, 0);
            due(MaskHall.TAKEN, x.exit(0));
            due(0, x.count(4));
            refuses(STATE, () -> x.exit(0));
        });
        test("of two that are on one tells the other one a secret that it knows", "both are on, and the first one knows it", () -> {
            MaskHall x = zeroKnows(30, meets(4, 5));
            refuses(STATE, () -> x.tell(0, 1, 0));
            come(x, 0);
            refuses(STATE, () -> x.tell(0, 1, 0));
            come(x, 1);
            refuses(STATE, () -> x.tell(1, 0, 0));
            refuses(STATE, () -> x.tell(0, 1, 1));
            due(MaskHall.TAKEN, x.tell(0, 1, 0));
            due(true, x.isKnown(1, 0));
            x.exit(0);
            refuses(STATE, () -> x.tell(0, 1, 0));
        });
        test("and that is not banned", "banned, and not any more", () -> {
            MaskHall x = zeroKnows(30, meets(4, 5));
            come(x, 0, 1);
            x.ban(0);
            refuses(STATE, () -> x.tell(0, 1, 0));
            x.ban(0);
            due(MaskHall.TAKEN, x.tell(0, 1, 0));
        });
        test("of two that are on one gives the other one a prop that it has", "both are on, and the first one has it", () -> {
            MaskHall x = propIsWith(0, 30, meets(4, 5));
            refuses(STATE, () -> x.give(0, 1, 0));
            come(x, 0);
            refuses(STATE, () -> x.give(0, 1, 0));
            come(x, 1);
            refuses(STATE, () -> x.give(1, 0, 0));
            refuses(STATE, () -> x.give(0, 1, 1));
            due(MaskHall.TAKEN, x.give(0, 1, 0));
            due(1, x.holder(0));
            x.exit(0);
            refuses(STATE, () -> x.give(1, 0, 0));
        });
        test("one that is on takes a prop that lies about", "the mask is on, and nobody has it", () -> {
            MaskHall x = propIsWith(5, 30, meets(4, 5));
            refuses(STATE, () -> x.take(0, 1));
            come(x, 0);
            refuses(STATE, () -> x.take(0, 0));
            due(MaskHall.TAKEN, x.take(0, 1));
            due(0, x.holder(1));
        });
        test("two that are on greet each other", "both are on", () -> {
            MaskHall x = begun(30, meets(4, 5));
            refuses(STATE, () -> x.greet(0, 1));
            come(x, 0);
            refuses(STATE, () -> x.greet(0, 1));
            refuses(STATE, () -> x.greet(1, 0));
            come(x, 1);
            due(MaskHall.TAKEN, x.greet(0, 1));
            due(MaskHall.TAKEN, x.greet(1, 0));
        });
    }

    private void moves() {
        in("Moves");
        test("A move takes a minute.", "each kind of move, TAKEN", () -> {
            MaskHall x = zeroKnows(30, meets(4, 5));
            x.enter(0);
            due(1, x.count(0));
            x.enter(1);
            due(2, x.count(0));
            x.tell(0, 1, 0);
            due(3, x.count(0));
            x.take(0, 0);
            due(4, x.count(0));
            x.give(0, 1, 0);
            due(5, x.count(0));
            x.greet(0, 1);
            due(6, x.count(0));
            x.exit(0);
            due(7, x.count(0));
        });
        test("A move takes a minute.", "each kind of step, DONE", () -> {
            MaskHall x = zeroKnows(30, enters(0), enters(1), tells(0, 1, 0), meets(0, 1), gives(0, 1, 0), exits(0));
            x.enter(0);
            x.enter(1);
            x.tell(0, 1, 0);
            due(3, x.count(0));
            x.greet(0, 1);
            due(4, x.count(0));
            x.take(0, 0);
            x.give(0, 1, 0);
            due(6, x.count(0));
            x.exit(0);
            due(7, x.count(0));
            due(MaskHall.CLOSED, x.state());
        });
        test("A secret that is told stays told", "though who told it goes, falls ill, and the secret is banned", () -> {
            MaskHall x = zeroKnows(30, meets(4, 5));
            come(x, 0, 1, 2);
            x.tell(0, 1, 0);
            x.exit(0);
            x.ill(0);
            due(true, x.isKnown(1, 0));
            due(MaskHall.TAKEN, x.tell(1, 2, 0));
            x.ban(0);
            x.ill(1);
            due(true, x.isKnown(1, 0));
            due(true, x.isKnown(2, 0));
            due(true, x.isKnown(0, 0));
        });
        test("who knows it already may be told it anew", "that is a move", () -> {
            MaskHall x = zeroKnows(30, tells(0, 1, 0), meets(4, 5));
            come(x, 0, 1);
            due(MaskHall.DONE, x.tell(0, 1, 0));
            due(MaskHall.TAKEN, x.tell(0, 1, 0));
            due(MaskHall.TAKEN, x.tell(1, 0, 0));
            due(5, x.count(0));
            due(5, x.count(5));
            due(1, x.next());
        });
    }

    private void stepsThatAreDone() {
        in("Moves");
        test("A move that is just what the next step of the canvas tells", "not what a step behind it tells", () -> {
            MaskHall x = zeroKnows(30, enters(3), enters(0), exits(0), meets(0, 1), gives(0, 1, 0));
            due(MaskHall.TAKEN, x.enter(0));
            due(MaskHall.TAKEN, x.exit(0));
            come(x, 0, 1);
            due(MaskHall.TAKEN, x.greet(0, 1));
            due(MaskHall.TAKEN, x.take(0, 0));
            due(MaskHall.TAKEN, x.give(0, 1, 0));
            due(0, x.next());
            due(MaskHall.DONE, x.enter(3));
            due(1, x.next());
        });
        test("A move that is just what the next step of the canvas tells", "not what a step before it told", () -> {
            MaskHall x = begun(30, enters(0), enters(1));
            due(MaskHall.DONE, x.enter(0));
            due(MaskHall.TAKEN, x.exit(0));
            due(MaskHall.TAKEN, x.enter(0));
            due(1, x.next());
        });
        test("of MEET in whatever order of both", "both orders", () -> {
            MaskHall x = begun(30, meets(0, 1), meets(0, 1));
            come(x, 0, 1);
            due(MaskHall.DONE, x.greet(0, 1));
            due(MaskHall.DONE, x.greet(1, 0));
        });
        test("of TELL only if b did not know it", "b did, and b did not", () -> {
            MaskHall x = told(tells(0, 1, 0), meets(4, 5));
            x.knows(0, 0, true);
            x.knows(1, 0, true);
            x.night(30);
            come(x, 0, 1);
            due(MaskHall.TAKEN, x.tell(0, 1, 0));
            due(0, x.next());
            MaskHall y = zeroKnows(30, tells(0, 1, 0), meets(4, 5));
            come(y, 0, 1);
            due(MaskHall.DONE, y.tell(0, 1, 0));
            due(1, y.next());
        });
        test("does that step, also if the plot cannot be closed", "each kind of step", () -> {
            MaskHall x = zeroKnows(30, enters(0), meets(0, 1), tells(0, 1, 0), gives(0, 1, 0), exits(0), meets(4, 5));
            x.ill(5);
            due(false, x.can());
            due(MaskHall.DONE, x.enter(0));
            come(x, 1);
            due(MaskHall.DONE, x.greet(0, 1));
            due(MaskHall.DONE, x.tell(0, 1, 0));
            x.take(0, 0);
            due(MaskHall.DONE, x.give(0, 1, 0));
            due(MaskHall.DONE, x.exit(0));
            due(false, x.can());
            x.ill(5);
            come(x, 4, 5);
            due(MaskHall.DONE, x.greet(4, 5));
            due(MaskHall.CLOSED, x.state());
        });
        test("the one behind is the next one then.", "of two steps that are alike, one by one", () -> {
            MaskHall x = begun(30, exits(0), exits(0), enters(0));
            come(x, 0);
            due(0, x.next());
            x.exit(0);
            due(1, x.next());
            due(MaskHall.TAKEN, x.enter(0));
            due(1, x.next());
            x.exit(0);
            due(2, x.next());
        });
        test("When the last one is done the night is CLOSED.", "of a single step", () -> {
            MaskHall x = begun(9, enters(0));
            due(MaskHall.PLAYS, x.state());
            due(MaskHall.DONE, x.enter(0));
            due(MaskHall.CLOSED, x.state());
            due(1, x.next());
            due(1, x.count(2));
        });
        test("When the last one is done the night is CLOSED.", "not with the last but one", () -> {
            MaskHall x = begun(9, enters(0), enters(1));
            x.enter(0);
            due(MaskHall.PLAYS, x.state());
            due(0, x.count(2));
            x.enter(1);
            due(MaskHall.CLOSED, x.state());
        });
    }

    private void theEndOfANight() {
        in("Moves");
        test("As soon as all minutes of light have gone by", "by moves: the last minute but one, and the last", () -> {
            for (int light : new int[] {1, 2, 9, 100}) {
                MaskHall x = begun(light, meets(4, 5));
                for (int minute = 1; minute <= light; minute++) {
                    due(MaskHall.PLAYS, x.state());
                    due(0, x.count(3));
                    due(MaskHall.TAKEN, minute % 2 == 1 ? x.enter(0) : x.exit(0));
                    due(minute, x.count(0));
                }
                due(MaskHall.LATE, x.state());
                due(1, x.count(3));
                refuses(STATE, () -> x.enter(1));
            }
        });
        test("As soon as all minutes of light have gone by", "by a gag: one that leaves a minute, and one that leaves none", () -> {
            for (int light = 11; light <= 12; light++) {
                MaskHall x = begun(light, meets(4, 5));
                x.gag(10, 1, MaskHall.NONE);
                come(x, 0);
                x.play(0, 0);
                due(light == 11 ? MaskHall.LATE : MaskHall.PLAYS, x.state());
                due(light == 11 ? 1 : 0, x.count(3));
            }
        });
        test("As soon as all minutes of light have gone by", "by a step that is not the last one", () -> {
            MaskHall x = begun(1, enters(0), enters(1));
            due(MaskHall.DONE, x.enter(0));
            due(MaskHall.LATE, x.state());
            due(1, x.next());
        });
        test("and the night is not CLOSED, it is LATE", "the last step in the last minute", () -> {
            MaskHall x = begun(2, enters(0), enters(1));
            x.enter(0);
            due(MaskHall.DONE, x.enter(1));
            due(MaskHall.CLOSED, x.state());
            due(2, x.count(0));
            due(1, x.count(2));
            due(0, x.count(3));
        });
    }

    private void playedGags() {
        in("Moves");
        test("A gag is played by a mask that is on, not ill", "off, on, ill, well again", () -> {
            MaskHall x = begun(30, meets(4, 5));
            x.gag(1, 64, MaskHall.NONE);
            refuses(STATE, () -> x.play(0, 0));
            come(x, 0);
            due(64, x.play(0, 0));
            x.ill(0);
            refuses(STATE, () -> x.play(0, 0));
            x.ill(0);
            refuses(STATE, () -> x.play(0, 0));
            come(x, 0);
            due(32, x.play(0, 0));
            x.exit(0);
            refuses(STATE, () -> x.play(0, 0));
        });
        test("and has the prop that it needs, if it needs one", "it lies about, another has it, it has it", () -> {
            for (int prop = 0; prop < 4; prop++) {
                int needed = prop;
                MaskHall x = begun(30, meets(4, 5));
                x.gag(1, 64, needed);
                x.gag(1, 32, MaskHall.NONE);
                come(x, 0, 1);
                refuses(STATE, () -> x.play(0, 0));
                due(32, x.play(1, 0));
                x.take(1, needed);
                x.take(0, (needed + 1) % 4);
                refuses(STATE, () -> x.play(0, 0));
                due(64, x.play(0, 1));
                x.give(1, 0, needed);
                due(32, x.play(0, 0));
                refuses(STATE, () -> x.play(0, 1));
            }
        });
        test("it takes its minutes, at most those that are left", "one less than those, those, one more", () -> {
            for (int length = 9; length <= 11; length++) {
                MaskHall x = begun(11, meets(4, 5));
                x.gag(length, 6, MaskHall.NONE);
                come(x, 0);
                due(6, x.play(0, 0));
                due(Math.min(11, length + 1), x.count(0));
                due(length == 9 ? MaskHall.PLAYS : MaskHall.LATE, x.state());
            }
        });
        test("its wit by 2 to the power of how often it was played in this town before, cut", "odd wits, and none", () -> {
            for (int wit : new int[] {0, 1, 2, 3, 7, 999, 1000}) {
                MaskHall x = begun(30, meets(4, 5));
                x.gag(1, wit, MaskHall.NONE);
                come(x, 0);
                due(wit, x.play(0, 0));
                due(wit / 2, x.play(0, 0));
                due(wit / 4, x.play(0, 0));
                due(wit / 8, x.play(0, 0));
            }
        });
        test("its wit by 2 to the power of how often it was played in this town before, cut", "so often that a power of an int wraps around", () -> {
            MaskHall x = begun(100, meets(4, 5));
            x.gag(1, 1000, MaskHall.NONE);
            come(x, 0);
            for (int times = 0; times < 98; times++) {
                due(times < 10 ? 1000 >> times : 0, x.play(0, 0));
            }
            due(1000 + 500 + 250 + 125 + 62 + 31 + 15 + 7 + 3 + 1, x.count(1));
        });
        test("how often it was played in this town before", "by whomever, in whatever night, but that gag alone", () -> {
            MaskHall x = begun(4, meets(4, 5));
            x.gag(1, 100, MaskHall.NONE);
            x.gag(1, 80, MaskHall.NONE);
            come(x, 0, 1);
            due(100, x.play(0, 0));
            due(50, x.play(0, 1));
            x.night(9);
            come(x, 0);
            due(25, x.play(0, 0));
            due(80, x.play(1, 0));
        });
        test("how often it was played in this town before", "in another town it was not", () -> {
            MaskHall x = begun(2, meets(4, 5));
            x.gag(1, 100, MaskHall.NONE);
            come(x, 0);
            due(100, x.play(0, 0));
            x.travel();
            x.night(9);
            come(x, 0);
            due(100, x.play(0, 0));
            due(50, x.play(0, 0));
        });
    }

    // ---- shares, sets, exceptions and constants

    private void sharesAndSets() {
        in("The way");
        test("1 for each mask at first", "all six", () -> {
            for (int mask = 0; mask < 6; mask++) {
                due(1, new MaskHall().points(mask, 0));
            }
            MaskHall x = troupe(MaskHall.PLAYS);
            x.play(0, 0);
            for (int mask = 0; mask < 6; mask++) {
                due(8.0 / 6.0, x.share(mask));
            }
        });
        test("a mask gets, as doubles, the laughs times its points, that by all points", "nothing is cut, or rounded before the end", () -> {
            MaskHall x = begun(9, meets(4, 5));
            x.gag(1, 1000, MaskHall.NONE);
            come(x, 0);
            x.play(0, 0);
            x.play(0, 0);
            x.points(0, 100);
            x.points(1, 99);
            x.points(2, 0);
            x.points(3, 7);
            due(1500.0 * 100.0 / 208.0, x.share(0));
            due(1500.0 * 99.0 / 208.0, x.share(1));
            due(0.0, x.share(2));
            due(1500.0 * 7.0 / 208.0, x.share(3));
            due(1500.0 / 208.0, x.share(4));
            due(1500.0 / 208.0, x.share(5));
        });
        test("A set of masks is told as the sum of 2 to the power of each.", "none, each alone, all", () -> {
            for (int mask = 0; mask < 6; mask++) {
                MaskHall x = begun(9, exits(other(mask)));
                due(0, x.count(4));
                come(x, mask);
                due(1 << mask, x.count(4));
            }
            due(63, allOn(0).count(4));
        });
    }

    private void exceptions() {
        in("The way");
        test("IndexOutOfBoundsException is thrown for a mask", "each call that has one", () -> {
            MaskHall x = allOn(0);
            x.gag(1, 1, MaskHall.NONE);
            for (int mask : new int[] {-1, 6, 64, Integer.MIN_VALUE, Integer.MAX_VALUE}) {
                refuses(INDEX, () -> x.knows(mask, 0, true));
                refuses(INDEX, () -> x.step(0, mask, 1, 0));
                refuses(INDEX, () -> x.step(0, 1, mask, 0));
                refuses(INDEX, () -> x.ill(mask));
                refuses(INDEX, () -> x.points(mask, 1));
                refuses(INDEX, () -> x.enter(mask));
                refuses(INDEX, () -> x.exit(mask));
                refuses(INDEX, () -> x.tell(mask, 1, 0));
                refuses(INDEX, () -> x.tell(0, mask, 0));
                refuses(INDEX, () -> x.give(mask, 1, 0));
                refuses(INDEX, () -> x.give(0, mask, 0));
                refuses(INDEX, () -> x.take(mask, 0));
                refuses(INDEX, () -> x.greet(mask, 1));
                refuses(INDEX, () -> x.greet(0, mask));
                refuses(INDEX, () -> x.play(0, mask));
                refuses(INDEX, () -> x.isKnown(mask, 0));
                refuses(INDEX, () -> x.share(mask));
            }
            refuses(INDEX, () -> x.has(0, -2));
            refuses(INDEX, () -> x.has(0, 6));
        });
        test("a mask, secret, prop, step or gag that does not exist", "each call that has a secret, prop or gag", () -> {
            MaskHall x = allOn(0);
            x.gag(1, 1, MaskHall.NONE);
            for (int thing : new int[] {-1, 4, 32, Integer.MIN_VALUE, Integer.MAX_VALUE}) {
                refuses(INDEX, () -> x.knows(0, thing, true));
                refuses(INDEX, () -> x.step(0, 0, 1, thing));
                refuses(INDEX, () -> x.step(1, 0, 1, thing));
                refuses(INDEX, () -> x.ban(thing));
                refuses(INDEX, () -> x.tell(0, 1, thing));
                refuses(INDEX, () -> x.isKnown(0, thing));
                refuses(INDEX, () -> x.has(thing, 0));
                refuses(INDEX, () -> x.give(0, 1, thing));
                refuses(INDEX, () -> x.take(0, thing));
                refuses(INDEX, () -> x.holder(thing));
                refuses(INDEX, () -> x.play(thing, 0));
            }
            refuses(INDEX, () -> x.gag(1, 1, -2));
            refuses(INDEX, () -> x.gag(1, 1, 4));
            refuses(INDEX, () -> x.play(1, 0));
        });
        test("IllegalArgumentException for another argument out of range", "each call that has one", () -> {
            MaskHall x = told(meets(4, 5));
            refuses(ARGUMENT, () -> x.step(-1, 0, 1, 0));
            refuses(ARGUMENT, () -> x.step(5, 0, 1, 0));
            refuses(ARGUMENT, () -> x.gag(0, 1, 0));
            refuses(ARGUMENT, () -> x.gag(21, 1, 0));
            refuses(ARGUMENT, () -> x.gag(1, -1, 0));
            refuses(ARGUMENT, () -> x.gag(1, 1001, 0));
            refuses(ARGUMENT, () -> x.points(0, -1));
            refuses(ARGUMENT, () -> x.points(0, 101));
            refuses(ARGUMENT, () -> x.night(0));
            refuses(ARGUMENT, () -> x.night(101));
            refuses(ARGUMENT, () -> x.count(-1));
            refuses(ARGUMENT, () -> x.count(6));
        });
        test("and IllegalStateException if a call is not possible now", "while no night PLAYS, and while one does", () -> {
            for (MaskHall x : notPlaying()) {
                refuses(STATE, () -> x.enter(3));
                refuses(STATE, () -> x.exit(0));
                refuses(STATE, () -> x.tell(0, 1, 0));
                refuses(STATE, () -> x.give(0, 1, 0));
                refuses(STATE, () -> x.take(0, 1));
                refuses(STATE, () -> x.greet(0, 1));
                refuses(STATE, () -> x.play(0, 0));
            }
            MaskHall y = troupe(MaskHall.PLAYS);
            refuses(STATE, () -> y.step(0, 0, 1, 0));
            refuses(STATE, y::tear);
            refuses(STATE, y::travel);
            refuses(STATE, () -> y.night(1));
        });
        test("also if there would be more than told", "the thirteenth step, the seventh gag", () -> {
            MaskHall x = full();
            refuses(STATE, () -> x.step(0, 0, 1, 0));
            refuses(STATE, () -> x.gag(1, 1, MaskHall.NONE));
            x.tear();
            due(1, x.step(0, 0, 1, 0));
            refuses(STATE, () -> x.gag(1, 1, MaskHall.NONE));
        });
        in("What it is");
        test("An object is used for at most 512 calls after it has been made", "the 512th call is answered as the others are", () -> {
            MaskHall x = told(meets(4, 5));
            for (int calls = 1; calls < 505; calls += 6) {
                x.night(5);
                for (int i = 0; i < 5; i++) {
                    due(MaskHall.TAKEN, i % 2 == 0 ? x.enter(0) : x.exit(0));
                }
            }
            due(84, x.count(3));
            for (int call = 507; call < 512; call++) {
                x.ill(0);
            }
            due(MaskHall.LATE, x.state());
        });
    }

    private void constants() {
        in("The way");
        test("The constants: `NONE = -1`: None.", "as it is written", () -> due(-1, MaskHall.NONE));
        test("`TELL = 0, GIVE = 1, ENTER = 2, EXIT = 3, MEET = 4, TAKE = 5`: Kinds of steps and moves.", "as it is written", () -> {
            int[] kinds = {MaskHall.TELL, MaskHall.GIVE, MaskHall.ENTER, MaskHall.EXIT, MaskHall.MEET, MaskHall.TAKE};
            for (int i = 0; i < kinds.length; i++) {
                due(i, kinds[i]);
            }
        });
        test("`NO_NIGHT = 0, PLAYS = 1, CLOSED = 2, LATE = 3`: What the night is.", "as it is written", () -> {
            int[] nights = {MaskHall.NO_NIGHT, MaskHall.PLAYS, MaskHall.CLOSED, MaskHall.LATE};
            for (int i = 0; i < nights.length; i++) {
                due(i, nights[i]);
            }
        });
        test("`BLOCKED = 0, TAKEN = 1, DONE = 2`: What becomes of a move.", "as it is written", () -> {
            int[] ends = {MaskHall.BLOCKED, MaskHall.TAKEN, MaskHall.DONE};
            for (int i = 0; i < ends.length; i++) {
                due(i, ends[i]);
            }
        });
    }
}
