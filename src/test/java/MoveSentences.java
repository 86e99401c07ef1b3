/** Promises 12 to 18: the moves, and gags that are played. */
final class MoveSentences extends Sentences {
    MoveSentences(Report report) {
        super(report);
    }

    @Override
    void run() {
        enter();
        exit();
        tell();
        give();
        take();
        greet();
        play();
    }

    private void enter() {
        in("Promise 12");
        test("Lets a mask come on.", "that mask alone", () -> {
            MaskHall x = begun(9, meets(4, 5));
            x.enter(3);
            due(8, x.count(4));
            x.enter(0);
            due(9, x.count(4));
        });
        test("- `mask`: 0 to 5", "both sides of both bounds", () ->
                bounds(INDEX, 0, 5, mask -> due(MaskHall.TAKEN, begun(9, meets(4, 5)).enter(mask))));
        test("Returns TAKEN or DONE.", "another step is next, that step is next, also in the last minute", () -> {
            MaskHall x = begun(3, enters(1), enters(0));
            due(MaskHall.TAKEN, x.enter(0));
            due(MaskHall.DONE, x.enter(1));
            due(MaskHall.TAKEN, x.enter(2));
            due(MaskHall.LATE, x.state());
            due(MaskHall.DONE, begun(1, enters(5), enters(0)).enter(5));
        });
        test("if there is no such mask", "while a night PLAYS, and while none does", () -> {
            MaskHall x = troupe(MaskHall.PLAYS);
            refuses(INDEX, () -> x.enter(-1));
            refuses(INDEX, () -> x.enter(6));
            refuses(INDEX, () -> new MaskHall().enter(6));
        });
        test("if no night PLAYS", "ahead of the first one, CLOSED, LATE", () -> {
            due(MaskHall.TAKEN, troupe(MaskHall.PLAYS).enter(2));
            for (MaskHall x : notPlaying()) {
                refuses(STATE, () -> x.enter(2));
            }
        });
        test("or the mask is ill", "ill, and well again", () -> {
            MaskHall x = begun(9, enters(0));
            x.ill(0);
            refuses(STATE, () -> x.enter(0));
            due(0, x.next());
            x.ill(0);
            due(MaskHall.DONE, x.enter(0));
        });
        test("or on", "though the step that is next is that", () -> {
            MaskHall x = begun(9, meets(0, 1), enters(0));
            come(x, 0, 1);
            refuses(STATE, () -> x.enter(0));
            x.greet(0, 1);
            refuses(STATE, () -> x.enter(0));
            due(1, x.next());
        });
    }

    private void exit() {
        in("Promise 13");
        test("Lets a mask go off.", "that mask alone", () -> {
            MaskHall x = allOn(0);
            x.exit(3);
            due(63 - 8, x.count(4));
            x.exit(0);
            due(63 - 9, x.count(4));
        });
        test("- `mask`: 0 to 5", "both sides of both bounds", () ->
                bounds(INDEX, 0, 5, mask -> {
                    MaskHall x = allOn(0);
                    due(mask == 5 ? MaskHall.DONE : MaskHall.TAKEN, x.exit(mask));
                }));
        test("Returns TAKEN or DONE.", "another step is next, that step is next", () -> {
            MaskHall x = allOn(0);
            due(MaskHall.TAKEN, x.exit(0));
            due(MaskHall.DONE, x.exit(5));
            MaskHall y = begun(2, exits(0), enters(0));
            come(y, 0);
            due(MaskHall.DONE, y.exit(0));
            due(MaskHall.LATE, y.state());
        });
        test("if there is no such mask", "while a night PLAYS, and while none does", () -> {
            MaskHall x = allOn(0);
            refuses(INDEX, () -> x.exit(-1));
            refuses(INDEX, () -> x.exit(6));
            refuses(INDEX, () -> new MaskHall().exit(6));
        });
        test("if no night PLAYS", "ahead of the first one, CLOSED, LATE", () -> {
            due(MaskHall.TAKEN, troupe(MaskHall.PLAYS).exit(0));
            for (MaskHall x : notPlaying()) {
                refuses(STATE, () -> x.exit(0));
            }
        });
        test("or the mask is not on", "never came, went, fell ill, is well again", () -> {
            MaskHall x = begun(30, exits(0));
            refuses(STATE, () -> x.exit(0));
            come(x, 1, 2);
            x.exit(1);
            refuses(STATE, () -> x.exit(1));
            x.ill(2);
            refuses(STATE, () -> x.exit(2));
            x.ill(2);
            refuses(STATE, () -> x.exit(2));
            due(0, x.next());
        });
    }

    private void tell() {
        in("Promise 14");
        test("Lets a mask tell another one a secret.", "that one, and that secret, alone", () -> {
            MaskHall x = allOn(2);
            x.tell(2, 3, 1);
            int known = 0;
            for (int i = 0; i < 24; i++) {
                known += x.isKnown(i / 4, i % 4) ? 1 : 0;
            }
            due(5, known);
            due(true, x.isKnown(3, 1));
        });
        test("- `a`: 0 to 5", "both sides of both bounds", () ->
                bounds(INDEX, 0, 5, a -> due(MaskHall.TAKEN, allOn(Math.floorMod(a, 6)).tell(a, a == 1 ? 2 : 1, 0))));
        test("- `b`: 0 to 5", "both sides of both bounds", () ->
                bounds(INDEX, 0, 5, b -> due(MaskHall.TAKEN, allOn(other(b)).tell(other(b), b, 0))));
        test("- `secret`: 0 to 3", "both sides of both bounds", () ->
                bounds(INDEX, 0, 3, secret -> due(MaskHall.TAKEN, allOn(0).tell(0, 1, secret))));
        test("Returns BLOCKED, TAKEN or DONE.", "each of them", () -> {
            MaskHall x = zeroKnows(30, tells(0, 1, 0), tells(1, 2, 0));
            come(x, 0, 1, 2, 3);
            due(MaskHall.BLOCKED, x.tell(0, 2, 0));
            due(MaskHall.TAKEN, x.tell(0, 3, 0));
            due(MaskHall.BLOCKED, x.tell(3, 1, 0));
            due(MaskHall.DONE, x.tell(0, 1, 0));
            due(MaskHall.BLOCKED, x.tell(0, 2, 0));
            due(MaskHall.DONE, x.tell(1, 2, 0));
            due(MaskHall.CLOSED, x.state());
        });
        test("if there is no such mask, of either, or secret", "one by one", () -> {
            MaskHall x = allOn(0);
            refuses(INDEX, () -> x.tell(-1, 1, 0));
            refuses(INDEX, () -> x.tell(6, 1, 0));
            refuses(INDEX, () -> x.tell(0, -1, 0));
            refuses(INDEX, () -> x.tell(0, 6, 0));
            refuses(INDEX, () -> x.tell(0, 1, -1));
            refuses(INDEX, () -> x.tell(0, 1, 4));
        });
        test("if both masks are the same", "one that knows it, one that does not", () -> {
            MaskHall x = allOn(0);
            refuses(ARGUMENT, () -> x.tell(0, 0, 0));
            refuses(ARGUMENT, () -> x.tell(5, 5, 0));
        });
        test("if no night PLAYS", "ahead of the first one, CLOSED, LATE", () -> {
            due(MaskHall.TAKEN, troupe(MaskHall.PLAYS).tell(0, 1, 0));
            for (MaskHall x : notPlaying()) {
                refuses(STATE, () -> x.tell(0, 1, 0));
            }
        });
        test("one of both is not on", "the first one, the second one, both", () -> {
            MaskHall x = zeroKnows(30, meets(4, 5));
            refuses(STATE, () -> x.tell(0, 1, 0));
            come(x, 1);
            refuses(STATE, () -> x.tell(0, 1, 0));
            come(x, 0);
            x.exit(1);
            refuses(STATE, () -> x.tell(0, 1, 0));
            come(x, 1);
            due(MaskHall.TAKEN, x.tell(0, 1, 0));
        });
        test("the first one does not know it", "the second one does, or nobody does", () -> {
            MaskHall x = zeroKnows(30, meets(4, 5));
            come(x, 0, 1);
            refuses(STATE, () -> x.tell(1, 0, 0));
            refuses(STATE, () -> x.tell(0, 1, 1));
            refuses(STATE, () -> x.tell(0, 1, 3));
        });
        test("or it is banned", "also if the step that is next is that, or b knows it", () -> {
            MaskHall x = told(tells(0, 1, 0));
            x.knows(0, 0, true);
            x.knows(2, 0, true);
            x.night(30);
            come(x, 0, 1, 2);
            x.ban(0);
            refuses(STATE, () -> x.tell(0, 1, 0));
            refuses(STATE, () -> x.tell(0, 2, 0));
            x.ban(0);
            due(MaskHall.DONE, x.tell(0, 1, 0));
        });
    }

    private void give() {
        in("Promise 15");
        test("Lets a mask give another one a prop.", "that prop alone", () -> {
            MaskHall x = allOn(2);
            x.give(2, 3, 1);
            for (int prop = 0; prop < 4; prop++) {
                due(prop == 1 ? 3 : 2, x.holder(prop));
            }
        });
        test("- `a`: 0 to 5", "both sides of both bounds", () ->
                bounds(INDEX, 0, 5, a -> due(MaskHall.TAKEN, allOn(Math.floorMod(a, 6)).give(a, a == 1 ? 2 : 1, 0))));
        test("- `b`: 0 to 5", "both sides of both bounds", () ->
                bounds(INDEX, 0, 5, b -> {
                    MaskHall x = allOn(other(b));
                    due(MaskHall.TAKEN, x.give(other(b), b, 0));
                    due(b, x.holder(0));
                }));
        test("- `prop`: 0 to 3", "both sides of both bounds", () ->
                bounds(INDEX, 0, 3, prop -> due(MaskHall.TAKEN, allOn(0).give(0, 1, prop))));
        test("Returns TAKEN or DONE.", "another step is next, that step is next", () -> {
            MaskHall x = propIsWith(0, 30, gives(0, 1, 0), gives(1, 0, 0));
            come(x, 0, 1, 2);
            due(MaskHall.TAKEN, x.give(0, 2, 0));
            due(MaskHall.TAKEN, x.give(2, 0, 0));
            due(MaskHall.DONE, x.give(0, 1, 0));
            due(MaskHall.TAKEN, x.give(1, 2, 0));
            due(MaskHall.TAKEN, x.give(2, 1, 0));
            due(MaskHall.DONE, x.give(1, 0, 0));
            due(MaskHall.CLOSED, x.state());
        });
        test("if there is no such mask, of either, or prop", "one by one", () -> {
            MaskHall x = allOn(0);
            refuses(INDEX, () -> x.give(-1, 1, 0));
            refuses(INDEX, () -> x.give(6, 1, 0));
            refuses(INDEX, () -> x.give(0, -1, 0));
            refuses(INDEX, () -> x.give(0, 6, 0));
            refuses(INDEX, () -> x.give(0, 1, -1));
            refuses(INDEX, () -> x.give(0, 1, 4));
        });
        test("if both masks are the same", "one that has it, one that has it not", () -> {
            MaskHall x = allOn(0);
            refuses(ARGUMENT, () -> x.give(0, 0, 0));
            refuses(ARGUMENT, () -> x.give(5, 5, 0));
        });
        test("if no night PLAYS", "ahead of the first one, CLOSED, LATE", () -> {
            due(MaskHall.TAKEN, troupe(MaskHall.PLAYS).give(0, 1, 0));
            for (MaskHall x : notPlaying()) {
                refuses(STATE, () -> x.give(0, 1, 0));
            }
        });
        test("one of both is not on", "the first one, the second one, both", () -> {
            MaskHall x = propIsWith(0, 30, meets(4, 5));
            refuses(STATE, () -> x.give(0, 1, 0));
            come(x, 1);
            refuses(STATE, () -> x.give(0, 1, 0));
            come(x, 0);
            x.exit(1);
            refuses(STATE, () -> x.give(0, 1, 0));
            come(x, 1);
            due(MaskHall.TAKEN, x.give(0, 1, 0));
        });
        test("or the first one has it not", "the second one has it, a third one has it, it lies about", () -> {
            MaskHall x = told(meets(4, 5));
            x.has(0, 1);
            x.has(1, 2);
            x.night(30);
            come(x, 0, 1, 2);
            refuses(STATE, () -> x.give(0, 1, 0));
            refuses(STATE, () -> x.give(0, 1, 1));
            refuses(STATE, () -> x.give(0, 1, 2));
        });
    }

    private void take() {
        in("Promise 16");
        test("Lets a mask take a prop that lies about.", "that prop alone", () -> {
            MaskHall x = begun(30, meets(4, 5));
            come(x, 2);
            x.take(2, 3);
            for (int prop = 0; prop < 4; prop++) {
                due(prop == 3 ? 2 : -1, x.holder(prop));
            }
        });
        test("- `mask`: 0 to 5", "both sides of both bounds", () ->
                bounds(INDEX, 0, 5, mask -> {
                    MaskHall x = begun(30, exits(0));
                    if (mask >= 0 && mask < 6) {
                        x.enter(mask);
                    }
                    due(MaskHall.TAKEN, x.take(mask, 0));
                    due(mask, x.holder(0));
                }));
        test("- `prop`: 0 to 3", "both sides of both bounds", () ->
                bounds(INDEX, 0, 3, prop -> {
                    MaskHall x = begun(30, meets(4, 5));
                    come(x, 0);
                    due(MaskHall.TAKEN, x.take(0, prop));
                }));
        test("Returns TAKEN.", "it does no step, whatever is next", () -> {
            int[][] steps = {tells(0, 1, 0), gives(0, 1, 0), gives(1, 0, 0), enters(0), exits(0), meets(0, 1)};
            for (int[] step : steps) {
                MaskHall x = zeroKnows(30, exits(5), step);
                come(x, 5);
                x.exit(5);
                come(x, 1);
                due(MaskHall.TAKEN, x.take(1, 0));
                due(1, x.next());
            }
        });
        test("if there is no such mask or prop", "one by one", () -> {
            MaskHall x = begun(30, meets(4, 5));
            come(x, 0);
            refuses(INDEX, () -> x.take(-1, 0));
            refuses(INDEX, () -> x.take(6, 0));
            refuses(INDEX, () -> x.take(0, -1));
            refuses(INDEX, () -> x.take(0, 4));
        });
        test("if no night PLAYS", "ahead of the first one, CLOSED, LATE", () -> {
            due(MaskHall.TAKEN, troupe(MaskHall.PLAYS).take(0, 1));
            for (MaskHall x : notPlaying()) {
                refuses(STATE, () -> x.take(0, 1));
            }
        });
        test("the mask is not on", "off, gone, ill", () -> {
            MaskHall x = begun(30, meets(4, 5));
            refuses(STATE, () -> x.take(0, 0));
            come(x, 0);
            x.exit(0);
            refuses(STATE, () -> x.take(0, 0));
            come(x, 0);
            x.ill(0);
            refuses(STATE, () -> x.take(0, 0));
        });
        test("or somebody has the prop", "it itself, another one that is on, or off, or ill", () -> {
            MaskHall x = told(meets(4, 5));
            for (int prop = 0; prop < 4; prop++) {
                x.has(prop, prop);
            }
            x.night(30);
            come(x, 0, 1, 3);
            x.ill(3);
            for (int prop = 0; prop < 4; prop++) {
                int p = prop;
                refuses(STATE, () -> x.take(0, p));
            }
        });
    }

    private void greet() {
        in("Promise 17");
        test("Lets two masks greet each other.", "that takes a minute, and changes nothing else", () -> {
            MaskHall x = allOn(0);
            due(MaskHall.TAKEN, x.greet(1, 2));
            due(7, x.count(0));
            due(7, x.count(5));
            due(63, x.count(4));
            due(0, x.next());
        });
        test("- `a`: 0 to 5", "both sides of both bounds", () ->
                bounds(INDEX, 0, 5, a -> due(MaskHall.TAKEN, allOn(0).greet(a, a == 0 ? 1 : 0))));
        test("- `b`: 0 to 5", "both sides of both bounds", () ->
                bounds(INDEX, 0, 5, b -> due(MaskHall.TAKEN, allOn(0).greet(b == 0 ? 1 : 0, b))));
        test("Returns TAKEN or DONE.", "another step is next, that step is next", () -> {
            MaskHall x = begun(30, meets(0, 1), meets(2, 0));
            come(x, 0, 1, 2);
            due(MaskHall.TAKEN, x.greet(2, 0));
            due(MaskHall.DONE, x.greet(1, 0));
            due(MaskHall.TAKEN, x.greet(1, 0));
            due(MaskHall.DONE, x.greet(2, 0));
        });
        test("if there is no such mask, of either", "one by one", () -> {
            MaskHall x = allOn(0);
            refuses(INDEX, () -> x.greet(-1, 0));
            refuses(INDEX, () -> x.greet(6, 0));
            refuses(INDEX, () -> x.greet(0, -1));
            refuses(INDEX, () -> x.greet(0, 6));
        });
        test("if both masks are the same", "the first one, the last one", () -> {
            MaskHall x = allOn(0);
            refuses(ARGUMENT, () -> x.greet(0, 0));
            refuses(ARGUMENT, () -> x.greet(5, 5));
        });
        test("if no night PLAYS", "ahead of the first one, CLOSED, LATE", () -> {
            due(MaskHall.TAKEN, troupe(MaskHall.PLAYS).greet(0, 1));
            for (MaskHall x : notPlaying()) {
                refuses(STATE, () -> x.greet(0, 1));
            }
        });
        test("or one of both is not on", "the first one, the second one, both", () -> {
            MaskHall x = begun(30, meets(0, 1));
            refuses(STATE, () -> x.greet(0, 1));
            come(x, 0);
            refuses(STATE, () -> x.greet(0, 1));
            refuses(STATE, () -> x.greet(1, 0));
            due(0, x.next());
        });
    }

    private void play() {
        in("Promise 18");
        test("Plays a gag.", "it is no move, and does no step", () -> {
            MaskHall x = troupe(MaskHall.PLAYS);
            x.play(0, 0);
            due(2, x.count(5));
            due(2, x.next());
            due(3, x.count(0));
        });
        test("- `gag`: a gag", "none was told, one was, six were", () -> {
            MaskHall none = begun(30, meets(4, 5));
            come(none, 0);
            bounds(INDEX, 0, -1, gag -> none.play(gag, 0));
            bounds(INDEX, 0, 0, gag -> due(8, troupe(MaskHall.PLAYS).play(gag, 0)));
            bounds(INDEX, 0, 5, gag -> {
                MaskHall x = full();
                x.night(30);
                come(x, 1);
                due(1, x.play(gag, 1));
            });
        });
        test("- `mask`: 0 to 5", "both sides of both bounds", () ->
                bounds(INDEX, 0, 5, mask -> {
                    MaskHall x = allOn(0);
                    x.gag(1, 8, MaskHall.NONE);
                    due(8, x.play(0, mask));
                }));
        test("Returns the laughs of it.", "whole, though the light goes before its end", () -> {
            MaskHall x = begun(2, meets(4, 5));
            x.gag(20, 1000, MaskHall.NONE);
            come(x, 0);
            due(1000, x.play(0, 0));
            due(1000, x.count(1));
            due(2, x.count(0));
            due(MaskHall.LATE, x.state());
        });
        test("Returns the laughs of it.", "a play that was refused was none", () -> {
            MaskHall x = troupe(MaskHall.PLAYS);
            refuses(STATE, () -> x.play(0, 2));
            refuses(INDEX, () -> x.play(0, 6));
            due(8, x.play(0, 0));
            refuses(STATE, () -> x.play(0, 2));
            due(4, x.play(0, 0));
        });
        test("if there is no such gag or mask", "the gag, the mask, both", () -> {
            MaskHall x = troupe(MaskHall.PLAYS);
            refuses(INDEX, () -> x.play(-1, 0));
            refuses(INDEX, () -> x.play(1, 0));
            refuses(INDEX, () -> x.play(0, -1));
            refuses(INDEX, () -> x.play(0, 6));
            refuses(INDEX, () -> x.play(6, 6));
        });
        test("if no night PLAYS", "ahead of the first one, CLOSED, LATE", () -> {
            due(8, troupe(MaskHall.PLAYS).play(0, 0));
            for (MaskHall x : notPlaying()) {
                refuses(STATE, () -> x.play(0, 0));
            }
        });
        test("the mask is not on", "off, gone, ill", () -> {
            MaskHall x = troupe(MaskHall.PLAYS);
            refuses(STATE, () -> x.play(0, 2));
            x.exit(1);
            refuses(STATE, () -> x.play(0, 1));
            x.ill(0);
            refuses(STATE, () -> x.play(0, 0));
        });
        test("or has not the prop that it needs", "it lies about, another one has it; another prop is no help", () -> {
            MaskHall x = troupe(MaskHall.PLAYS);
            x.gag(1, 8, 0);
            x.gag(1, 8, 3);
            refuses(STATE, () -> x.play(1, 1));
            refuses(STATE, () -> x.play(2, 0));
            due(8, x.play(1, 0));
            x.take(0, 3);
            due(8, x.play(2, 0));
        });
    }
}
