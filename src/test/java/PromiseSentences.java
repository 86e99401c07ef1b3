/** Promises 1 to 11: a new object, and what is called before a night. */
final class PromiseSentences extends Sentences {
    PromiseSentences(Report report) {
        super(report);
    }

    @Override
    void run() {
        newObject();
        knows();
        has();
        step();
        tear();
        ill();
        ban();
        travel();
        gagBounds();
        gags();
        points();
        night();
    }

    private void newObject() {
        in("Promise 1");
        test("nobody knows", "each mask, each secret", () -> {
            for (int mask = 0; mask < 6; mask++) {
                for (int secret = 0; secret < 4; secret++) {
                    due(false, new MaskHall().isKnown(mask, secret));
                    due(false, new MaskHall().knows(mask, secret, true));
                }
            }
        });
        test("nobody knows or has anything", "each prop", () -> {
            for (int prop = 0; prop < 4; prop++) {
                due(-1, new MaskHall().holder(prop));
                due(-1, new MaskHall().has(prop, 0));
            }
        });
        test("and the canvas is empty", "nothing is torn, no night begins, twelve steps fit", () -> {
            MaskHall x = new MaskHall();
            due(0, x.tear());
            refuses(STATE, () -> x.night(1));
            for (int i = 1; i <= 12; i++) {
                due(i, x.step(MaskHall.ENTER, 0, 1, 0));
            }
        });
        test("Opens the hall", "nobody is ill, nothing is banned, no gag is told, no night was", () -> {
            MaskHall x = new MaskHall();
            for (int mask = 0; mask < 6; mask++) {
                due(true, x.ill(mask));
            }
            for (int secret = 0; secret < 4; secret++) {
                due(true, x.ban(secret));
            }
            refuses(INDEX, () -> x.play(0, 0));
            due(MaskHall.NO_NIGHT, x.state());
            due(-1, x.next());
            for (int what = 0; what < 6; what++) {
                due(0, x.count(what));
            }
        });
        test("Opens the hall", "a second one has nothing of the first one's", () -> {
            String fresh = Probe.everything(new MaskHall());
            MaskHall first = Probe.told();
            first.night(50);
            come(first, 0, 1);
            first.tell(0, 1, 0);
            due(fresh, Probe.everything(new MaskHall()));
        });
    }

    private void knows() {
        in("Promise 2");
        test("in place of what was told", "the last telling counts", () -> {
            MaskHall x = new MaskHall();
            x.knows(0, 0, true);
            x.knows(0, 0, true);
            due(true, x.isKnown(0, 0));
            x.knows(0, 0, false);
            due(false, x.isKnown(0, 0));
            x.knows(0, 0, false);
            due(false, x.isKnown(0, 0));
            x.knows(0, 0, true);
            due(true, x.isKnown(0, 0));
        });
        test("Tells whether a mask knows a secret at the beginning of a night", "that mask and that secret alone", () -> {
            for (int mask = 0; mask < 6; mask++) {
                for (int secret = 0; secret < 4; secret++) {
                    MaskHall x = new MaskHall();
                    x.knows(mask, secret, true);
                    int known = 0;
                    for (int i = 0; i < 24; i++) {
                        known += x.isKnown(i / 4, i % 4) ? 1 : 0;
                    }
                    due(1, known);
                    due(true, x.isKnown(mask, secret));
                }
            }
        });
        test("Tells whether a mask knows a secret at the beginning of a night", "while one plays too", () -> {
            MaskHall x = troupe(MaskHall.PLAYS);
            due(true, x.knows(0, 0, false));
            due(false, x.knows(0, 0, false));
            due(true, x.isKnown(0, 0));
        });
        test("- `mask`: 0 to 5", "both sides of both bounds", () ->
                bounds(INDEX, 0, 5, mask -> due(false, new MaskHall().knows(mask, 0, true))));
        test("- `secret`: 0 to 3", "both sides of both bounds", () ->
                bounds(INDEX, 0, 3, secret -> due(false, new MaskHall().knows(0, secret, true))));
        test("- `does`: whether it does", "both", () -> {
            MaskHall x = new MaskHall();
            x.knows(5, 3, true);
            due(true, x.isKnown(5, 3));
            x.knows(5, 3, false);
            due(false, x.isKnown(5, 3));
        });
        test("Returns whether it did.", "told, told anew, told otherwise", () -> {
            MaskHall x = new MaskHall();
            due(false, x.knows(5, 3, false));
            due(false, x.knows(5, 3, true));
            due(true, x.knows(5, 3, true));
            due(true, x.knows(5, 3, false));
            due(false, x.knows(5, 3, false));
        });
        test("Returns whether it did.", "at the beginning, not in the night", () -> {
            MaskHall x = troupe(MaskHall.PLAYS);
            x.tell(0, 1, 0);
            due(false, x.knows(1, 0, false));
        });
        test("if there is no such mask or secret", "the mask, the secret, both; to know and not to know", () -> {
            MaskHall x = new MaskHall();
            for (boolean does : new boolean[] {true, false}) {
                refuses(INDEX, () -> x.knows(6, 0, does));
                refuses(INDEX, () -> x.knows(0, 4, does));
                refuses(INDEX, () -> x.knows(-1, -1, does));
            }
        });
    }

    private void has() {
        in("Promise 3");
        test("Tells who has a prop at the beginning of a night.", "in place of who had it", () -> {
            MaskHall x = new MaskHall();
            x.has(0, 5);
            x.has(0, 2);
            due(2, x.holder(0));
            x.has(0, -1);
            due(-1, x.holder(0));
        });
        test("Tells who has a prop at the beginning of a night.", "that prop alone; a mask may have all, also if it is ill", () -> {
            MaskHall x = new MaskHall();
            x.ill(5);
            for (int prop = 0; prop < 4; prop++) {
                for (int later = prop; later < 4; later++) {
                    due(-1, x.holder(later));
                }
                due(-1, x.has(prop, 5));
                due(5, x.holder(prop));
            }
        });
        test("- `prop`: 0 to 3", "both sides of both bounds", () ->
                bounds(INDEX, 0, 3, prop -> due(-1, new MaskHall().has(prop, 0))));
        test("- `mask`: 0 to 5, or -1 if it lies about", "both sides of both bounds", () ->
                bounds(INDEX, -1, 5, mask -> {
                    MaskHall x = new MaskHall();
                    due(-1, x.has(0, mask));
                    due(mask, x.holder(0));
                }));
        test("Returns who had it", "mask 0, mask 5", () -> {
            MaskHall x = new MaskHall();
            x.has(3, 0);
            due(0, x.has(3, 5));
            due(5, x.has(3, 5));
            due(5, x.has(3, -1));
        });
        test("Returns who had it", "at the beginning, not in the night", () -> {
            MaskHall x = troupe(MaskHall.PLAYS);
            x.give(0, 1, 0);
            due(0, x.has(0, 0));
        });
        test("-1 if it lay about.", "never told of, and told of so", () -> {
            MaskHall x = new MaskHall();
            due(-1, x.has(3, -1));
            due(-1, x.has(3, -1));
            due(-1, x.has(3, 1));
        });
        test("if there is no such prop or mask", "the prop, the mask, both; a prop that lies about too", () -> {
            MaskHall x = new MaskHall();
            refuses(INDEX, () -> x.has(4, 0));
            refuses(INDEX, () -> x.has(4, -1));
            refuses(INDEX, () -> x.has(-1, -1));
            refuses(INDEX, () -> x.has(0, 6));
            refuses(INDEX, () -> x.has(0, -2));
            refuses(INDEX, () -> x.has(-1, 6));
        });
    }

    private void step() {
        in("Promise 4");
        test("Adds a step to the canvas.", "behind those that are there", () -> {
            MaskHall x = told(enters(0), enters(1));
            x.step(MaskHall.MEET, 0, 1, 0);
            x.night(9);
            due(MaskHall.DONE, x.enter(0));
            due(MaskHall.DONE, x.enter(1));
            due(MaskHall.DONE, x.greet(0, 1));
            due(MaskHall.CLOSED, x.state());
        });
        test("- `kind`: TELL to MEET", "both sides of both bounds", () ->
                bounds(ARGUMENT, MaskHall.TELL, MaskHall.MEET, kind -> due(1, new MaskHall().step(kind, 0, 1, 0))));
        test("- `kind`: TELL to MEET", "TAKE is a kind of move, and of no step", () ->
                refuses(ARGUMENT, () -> new MaskHall().step(MaskHall.TAKE, 0, 1, 0)));
        test("- `a`: 0 to 5", "both sides of both bounds, of each kind", () -> {
            for (int kind = MaskHall.TELL; kind <= MaskHall.MEET; kind++) {
                int k = kind;
                bounds(INDEX, 0, 5, a -> due(1, new MaskHall().step(k, a, other(a), 0)));
            }
        });
        test("- `b`: 0 to 5", "both sides of both bounds, of each kind", () -> {
            for (int kind = MaskHall.TELL; kind <= MaskHall.MEET; kind++) {
                int k = kind;
                bounds(INDEX, 0, 5, b -> due(1, new MaskHall().step(k, other(b), b, 0)));
            }
        });
        test("- `what`: 0 to 3: the secret or prop", "both sides of both bounds, of each kind", () -> {
            for (int kind = MaskHall.TELL; kind <= MaskHall.MEET; kind++) {
                int k = kind;
                bounds(INDEX, 0, 3, what -> due(1, new MaskHall().step(k, 0, 1, what)));
            }
        });
        test("Returns how many steps there are then.", "1 to 12", () -> {
            MaskHall x = new MaskHall();
            for (int i = 1; i <= 12; i++) {
                due(i, x.step(i % 5, 0, 1, 0));
            }
        });
        test("Returns how many steps there are then.", "1 again when the canvas was torn", () -> {
            MaskHall x = full();
            x.tear();
            due(1, x.step(MaskHall.ENTER, 0, 1, 0));
            due(2, x.step(MaskHall.ENTER, 0, 1, 0));
        });
        test("if there is no such mask, of either, or secret or prop", "one by one, and all", () -> {
            MaskHall x = new MaskHall();
            refuses(INDEX, () -> x.step(MaskHall.TELL, 6, 0, 0));
            refuses(INDEX, () -> x.step(MaskHall.TELL, 0, 6, 0));
            refuses(INDEX, () -> x.step(MaskHall.TELL, 0, 1, 4));
            refuses(INDEX, () -> x.step(MaskHall.GIVE, 0, 1, 4));
            refuses(INDEX, () -> x.step(MaskHall.GIVE, -1, 6, -1));
            due(0, x.tear());
        });
        test("if kind is out of range", "one below, one above", () -> {
            refuses(ARGUMENT, () -> new MaskHall().step(-1, 0, 1, 0));
            refuses(ARGUMENT, () -> new MaskHall().step(5, 0, 1, 0));
        });
        test("or both masks are the same", "of each kind, also where b does not matter", () -> {
            for (int kind = MaskHall.TELL; kind <= MaskHall.MEET; kind++) {
                int k = kind;
                refuses(ARGUMENT, () -> new MaskHall().step(k, 0, 0, 0));
                refuses(ARGUMENT, () -> new MaskHall().step(k, 5, 5, 3));
            }
        });
        test("Throws `IllegalStateException` as told above", "the thirteenth step, of each kind", () -> {
            MaskHall x = full();
            for (int kind = MaskHall.TELL; kind <= MaskHall.MEET; kind++) {
                int k = kind;
                refuses(STATE, () -> x.step(k, 0, 1, 0));
            }
            due(12, x.tear());
        });
        test("or while a night PLAYS", "though there is room; not when it has ended", () -> {
            MaskHall x = begun(1, meets(4, 5));
            refuses(STATE, () -> x.step(MaskHall.MEET, 0, 1, 0));
            come(x, 0);
            due(2, x.step(MaskHall.MEET, 0, 1, 0));
            for (MaskHall y : notPlaying()) {
                due(y.state() == MaskHall.CLOSED ? 3 : 4, y.step(MaskHall.MEET, 0, 1, 0));
            }
        });
    }

    private void tear() {
        in("Promise 5");
        test("Empties the canvas.", "the steps are gone, and there is room for twelve", () -> {
            MaskHall x = full();
            x.tear();
            due(0, x.tear());
            refuses(STATE, () -> x.night(1));
            for (int i = 1; i <= 12; i++) {
                due(i, x.step(MaskHall.ENTER, 1, 2, 0));
            }
            refuses(STATE, () -> x.step(MaskHall.ENTER, 1, 2, 0));
            x.night(1);
            due(MaskHall.DONE, x.enter(1));
        });
        test("Returns how many steps there were.", "none, one, eleven, twelve", () -> {
            for (int steps : new int[] {0, 1, 11, 12}) {
                MaskHall x = new MaskHall();
                for (int i = 0; i < steps; i++) {
                    x.step(MaskHall.MEET, 0, 1, 0);
                }
                due(steps, x.tear());
                due(0, x.tear());
            }
        });
        test("Returns how many steps there were.", "those that were done count too", () -> {
            due(2, troupe(MaskHall.CLOSED).tear());
            due(3, troupe(MaskHall.LATE).tear());
        });
        test("Throws `IllegalStateException` while a night PLAYS", "not ahead of the first one, nor when it has ended", () -> {
            MaskHall x = troupe(MaskHall.PLAYS);
            refuses(STATE, x::tear);
            for (MaskHall y : notPlaying()) {
                due(y.state() == MaskHall.CLOSED ? 2 : 3, y.tear());
            }
        });
    }

    private void ill() {
        in("Promise 6");
        test("Lets a mask fall ill, or be well again.", "who is well again may come on", () -> {
            MaskHall x = begun(9, meets(4, 5));
            x.ill(0);
            refuses(STATE, () -> x.enter(0));
            x.ill(0);
            due(MaskHall.TAKEN, x.enter(0));
        });
        test("Lets a mask fall ill, or be well again.", "a night's beginning and another town heal nobody", () -> {
            MaskHall x = told(meets(4, 5));
            x.ill(0);
            x.travel();
            x.night(9);
            refuses(STATE, () -> x.enter(0));
            due(false, x.ill(0));
        });
        test("- `mask`: 0 to 5", "both sides of both bounds", () ->
                bounds(INDEX, 0, 5, mask -> due(true, new MaskHall().ill(mask))));
        test("Returns true if it is ill then.", "ill, well, ill; in whatever night", () -> {
            for (int night = MaskHall.NO_NIGHT; night <= MaskHall.LATE; night++) {
                MaskHall x = troupe(night);
                due(true, x.ill(0));
                due(false, x.ill(0));
                due(true, x.ill(0));
            }
        });
        test("if there is no such mask", "also while a night PLAYS", () -> {
            MaskHall x = troupe(MaskHall.PLAYS);
            refuses(INDEX, () -> x.ill(-1));
            refuses(INDEX, () -> x.ill(6));
            refuses(INDEX, () -> x.ill(32));
        });
    }

    private void ban() {
        in("Promise 7");
        test("Bans a secret, or not any more.", "while a night PLAYS too", () -> {
            MaskHall x = troupe(MaskHall.PLAYS);
            x.ban(0);
            refuses(STATE, () -> x.tell(0, 1, 0));
            x.ban(0);
            due(MaskHall.TAKEN, x.tell(0, 1, 0));
        });
        test("Bans a secret, or not any more.", "a ban stays from night to night", () -> {
            MaskHall x = troupe(MaskHall.LATE);
            x.ban(0);
            x.night(9);
            come(x, 0, 1);
            refuses(STATE, () -> x.tell(0, 1, 0));
        });
        test("- `secret`: 0 to 3", "both sides of both bounds", () ->
                bounds(INDEX, 0, 3, secret -> due(true, new MaskHall().ban(secret))));
        test("Returns true if it is banned then.", "each by itself, in whatever night", () -> {
            for (int night = MaskHall.NO_NIGHT; night <= MaskHall.LATE; night++) {
                MaskHall x = troupe(night);
                due(true, x.ban(0));
                due(true, x.ban(3));
                due(false, x.ban(0));
                due(true, x.ban(0));
                due(false, x.ban(3));
            }
        });
        test("if there is no such secret", "also while a night PLAYS", () -> {
            MaskHall x = troupe(MaskHall.PLAYS);
            refuses(INDEX, () -> x.ban(-1));
            refuses(INDEX, () -> x.ban(4));
            refuses(INDEX, () -> x.ban(32));
        });
    }

    private void travel() {
        in("Promise 8");
        test("Goes to another town: nothing is banned there", "all four were, or none was", () -> {
            MaskHall x = new MaskHall();
            for (int round = 0; round < 2; round++) {
                for (int secret = 0; secret < 4; secret++) {
                    due(true, x.ban(secret));
                }
                x.travel();
            }
            x.travel();
            due(true, x.ban(0));
        });
        test("and no gag was played", "each of the six", () -> {
            MaskHall x = told(meets(4, 5));
            for (int i = 0; i < 6; i++) {
                x.gag(1, 100, MaskHall.NONE);
            }
            for (int round = 0; round < 2; round++) {
                x.night(13);
                come(x, 0);
                for (int i = 0; i < 12; i++) {
                    due(i < 6 ? 100 : 50, x.play(i % 6, 0));
                }
                due(MaskHall.LATE, x.state());
                x.travel();
            }
        });
        test("Goes to another town", "all else comes along", () -> {
            MaskHall x = troupe(MaskHall.LATE);
            x.points(3, 50);
            x.ill(4);
            x.travel();
            due(MaskHall.LATE, x.state());
            due(2, x.next());
            due(3, x.count(4));
            due(1, x.count(3));
            due(0, x.holder(0));
            due(true, x.knows(0, 0, true));
            due(50, x.points(3, 1));
            due(false, x.ill(4));
            due(1, x.gag(1, 1, MaskHall.NONE));
            due(3, x.tear());
        });
        test("Throws `IllegalStateException` while a night PLAYS", "not ahead of the first one, nor when it has ended", () -> {
            MaskHall x = troupe(MaskHall.PLAYS);
            due(8, x.play(0, 0));
            x.ban(1);
            refuses(STATE, x::travel);
            due(false, x.ban(1));
            due(4, x.play(0, 0));
            for (MaskHall y : notPlaying()) {
                y.ban(1);
                y.travel();
                due(true, y.ban(1));
            }
        });
    }

    private void gagBounds() {
        in("Promise 9");
        test("- `length`: 1 to 20", "both sides of both bounds", () ->
                bounds(ARGUMENT, 1, 20, length -> due(0, new MaskHall().gag(length, 1, MaskHall.NONE))));
        test("- `length`: 1 to 20", "the shortest and the longest are played so long", () -> {
            MaskHall x = begun(50, meets(4, 5));
            x.gag(1, 1, MaskHall.NONE);
            x.gag(20, 1, MaskHall.NONE);
            come(x, 0);
            x.play(0, 0);
            due(2, x.count(0));
            x.play(1, 0);
            due(22, x.count(0));
        });
        test("- `wit`: 0 to 1000", "both sides of both bounds", () ->
                bounds(ARGUMENT, 0, 1000, wit -> due(0, new MaskHall().gag(1, wit, MaskHall.NONE))));
        test("- `wit`: 0 to 1000", "the least and the most bring so many laughs", () -> {
            MaskHall x = begun(50, meets(4, 5));
            x.gag(1, 0, MaskHall.NONE);
            x.gag(1, 1000, MaskHall.NONE);
            come(x, 0);
            due(0, x.play(0, 0));
            due(1000, x.play(1, 0));
            due(1000, x.count(1));
        });
        test("- `prop`: 0 to 3, or -1 for none", "both sides of both bounds", () ->
                bounds(INDEX, -1, 3, prop -> due(0, new MaskHall().gag(1, 1, prop))));
    }

    private void gags() {
        in("Promise 9");
        test("Tells a gag.", "while a night PLAYS, and when it has ended", () -> {
            for (int night = MaskHall.NO_NIGHT; night <= MaskHall.LATE; night++) {
                due(1, troupe(night).gag(1, 1, MaskHall.NONE));
            }
        });
        test("Returns its number.", "0 to 5", () -> {
            MaskHall x = new MaskHall();
            for (int i = 0; i < 6; i++) {
                due(i, x.gag(20 - i, i, i % 5 - 1));
            }
        });
        test("if there is no such prop", "one below, one above", () -> {
            refuses(INDEX, () -> new MaskHall().gag(1, 1, -2));
            refuses(INDEX, () -> new MaskHall().gag(1, 1, 4));
        });
        test("if length or wit is out of range", "one below, one above, of each", () -> {
            refuses(ARGUMENT, () -> new MaskHall().gag(0, 1, 0));
            refuses(ARGUMENT, () -> new MaskHall().gag(21, 1, 0));
            refuses(ARGUMENT, () -> new MaskHall().gag(1, -1, 0));
            refuses(ARGUMENT, () -> new MaskHall().gag(1, 1001, 0));
        });
        test("Throws `IllegalStateException` as told above", "the seventh gag, also in another town, and when the canvas is torn", () -> {
            MaskHall x = full();
            refuses(STATE, () -> x.gag(1, 1, MaskHall.NONE));
            x.travel();
            x.tear();
            refuses(STATE, () -> x.gag(20, 1000, 3));
        });
    }

    private void points() {
        in("Promise 10");
        test("Sets the points of a mask.", "of that mask alone", () -> {
            for (int mask = 0; mask < 6; mask++) {
                MaskHall x = new MaskHall();
                x.points(mask, 9);
                for (int m = 0; m < 6; m++) {
                    due(m == mask ? 9 : 1, x.points(m, 1));
                }
            }
        });
        test("- `mask`: 0 to 5", "both sides of both bounds", () ->
                bounds(INDEX, 0, 5, mask -> due(1, new MaskHall().points(mask, 7))));
        test("- `points`: 0 to 100", "both sides of both bounds", () ->
                bounds(ARGUMENT, 0, 100, points -> {
                    MaskHall x = new MaskHall();
                    due(1, x.points(0, points));
                    due(points, x.points(0, 1));
                }));
        test("Returns what they were.", "the first, the least, the most; in whatever night", () -> {
            for (int night = MaskHall.NO_NIGHT; night <= MaskHall.LATE; night++) {
                MaskHall x = troupe(night);
                due(1, x.points(5, 0));
                due(0, x.points(5, 100));
                due(100, x.points(5, 100));
                due(100, x.points(5, 1));
            }
        });
        test("if there is no such mask", "one below, one above", () -> {
            refuses(INDEX, () -> new MaskHall().points(-1, 1));
            refuses(INDEX, () -> new MaskHall().points(6, 1));
        });
        test("if points is out of range", "one below, one above", () -> {
            refuses(ARGUMENT, () -> new MaskHall().points(0, -1));
            refuses(ARGUMENT, () -> new MaskHall().points(5, 101));
        });
    }

    private void night() {
        in("Promise 11");
        test("Begins a night.", "its minutes, moves and steps begin anew, laughs and ended nights stay", () -> {
            MaskHall x = troupe(MaskHall.PLAYS);
            x.play(0, 0);
            while (x.state() == MaskHall.PLAYS) {
                x.greet(0, 1);
            }
            due(50, x.count(0));
            x.night(5);
            due(MaskHall.PLAYS, x.state());
            due(0, x.count(0));
            due(8, x.count(1));
            due(0, x.count(2));
            due(1, x.count(3));
            due(0, x.count(4));
            due(0, x.count(5));
            due(0, x.next());
        });
        test("- `light`: 1 to 100: its minutes", "both sides of both bounds", () ->
                bounds(ARGUMENT, 1, 100, light -> {
                    MaskHall x = begun(light, meets(4, 5));
                    due(MaskHall.PLAYS, x.state());
                    due(0, x.count(0));
                }));
        test("- `light`: 1 to 100: its minutes", "the light of this night, not of the one before", () -> {
            MaskHall x = begun(1, meets(4, 5));
            come(x, 0);
            x.night(2);
            come(x, 0);
            due(MaskHall.PLAYS, x.state());
            x.exit(0);
            due(MaskHall.LATE, x.state());
            x.night(1);
            come(x, 0);
            due(MaskHall.LATE, x.state());
        });
        test("if light is out of range", "one below, one above", () -> {
            MaskHall x = told(meets(4, 5));
            refuses(ARGUMENT, () -> x.night(0));
            refuses(ARGUMENT, () -> x.night(101));
            due(MaskHall.NO_NIGHT, x.state());
        });
        test("Throws `IllegalStateException` while a night PLAYS", "not when it has ended", () -> {
            MaskHall x = troupe(MaskHall.PLAYS);
            refuses(STATE, () -> x.night(1));
            refuses(STATE, () -> x.night(100));
            for (MaskHall y : notPlaying()) {
                y.night(1);
                due(MaskHall.PLAYS, y.state());
            }
        });
        test("or if the canvas is empty", "never told, torn, torn after a night; one step is enough", () -> {
            MaskHall x = new MaskHall();
            refuses(STATE, () -> x.night(1));
            x.step(MaskHall.MEET, 4, 5, 0);
            x.tear();
            refuses(STATE, () -> x.night(1));
            x.step(MaskHall.MEET, 4, 5, 0);
            x.night(1);
            come(x, 0);
            x.tear();
            refuses(STATE, () -> x.night(1));
            due(MaskHall.LATE, x.state());
        });
    }
}
