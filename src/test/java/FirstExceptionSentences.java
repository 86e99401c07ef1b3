/** "If several apply, IndexOutOfBoundsException goes first, then IllegalArgumentException.", for each call. */
final class FirstExceptionSentences extends Sentences {
    FirstExceptionSentences(Report report) {
        super(report);
    }

    @Override
    void run() {
        in("The way");
        step();
        gag();
        points();
        night();
        comingsAndGoings();
        tellings();
        givings();
        takings();
        greetings();
        playedGags();
    }

    private void indexFirst(String edge, Runnable... calls) {
        test("If several apply, IndexOutOfBoundsException goes first", edge, () -> {
            for (Runnable call : calls) {
                refuses(INDEX, call);
            }
        });
    }

    private void argumentThen(String edge, Runnable... calls) {
        test("then IllegalArgumentException", edge, () -> {
            for (Runnable call : calls) {
                refuses(ARGUMENT, call);
            }
        });
    }

    private void step() {
        MaskHall x = new MaskHall();
        indexFirst("step: no such mask, secret or prop, and a kind out of range",
                () -> x.step(-1, 6, 1, 0), () -> x.step(5, -1, 1, 0), () -> x.step(-1, 0, 6, 0),
                () -> x.step(5, 0, -1, 0), () -> x.step(-1, 0, 1, 4), () -> x.step(5, 0, 1, -1));
        indexFirst("step: no such mask, secret or prop, and both masks the same",
                () -> x.step(0, 6, 6, 0), () -> x.step(4, -1, -1, 0), () -> x.step(0, 2, 2, 4), () -> x.step(1, 2, 2, -1));
        MaskHall full = full();
        indexFirst("step: no such mask, secret or prop, and the canvas is full",
                () -> full.step(0, 6, 1, 0), () -> full.step(0, 0, -1, 0), () -> full.step(0, 0, 1, 4));
        argumentThen("step: a kind out of range, or both masks the same, and the canvas is full",
                () -> full.step(-1, 0, 1, 0), () -> full.step(5, 0, 1, 0), () -> full.step(0, 2, 2, 0));
        indexFirst("step: no such mask, a kind out of range, and the canvas is full", () -> full.step(5, 6, 6, 4));
        MaskHall plays = troupe(MaskHall.PLAYS);
        indexFirst("step: no such mask, secret or prop, while a night PLAYS",
                () -> plays.step(0, -1, 1, 0), () -> plays.step(0, 0, 6, 0), () -> plays.step(0, 0, 1, -1));
        argumentThen("step: a kind out of range, or both masks the same, while a night PLAYS",
                () -> plays.step(-1, 0, 1, 0), () -> plays.step(5, 0, 1, 0), () -> plays.step(4, 2, 2, 0));
    }

    private void gag() {
        MaskHall x = new MaskHall();
        indexFirst("gag: no such prop, and a length or wit out of range",
                () -> x.gag(0, 1, -2), () -> x.gag(21, 1, 4), () -> x.gag(1, -1, -2), () -> x.gag(1, 1001, 4));
        MaskHall full = full();
        indexFirst("gag: no such prop, and there are six gags", () -> full.gag(1, 1, -2), () -> full.gag(1, 1, 4));
        argumentThen("gag: a length or wit out of range, and there are six gags",
                () -> full.gag(0, 1, -1), () -> full.gag(21, 1, 3), () -> full.gag(1, -1, -1), () -> full.gag(1, 1001, 0));
        indexFirst("gag: all three", () -> full.gag(0, -1, 4));
    }

    private void points() {
        MaskHall x = new MaskHall();
        indexFirst("points: no such mask, and points out of range", () -> x.points(-1, -1), () -> x.points(6, 101));
    }

    private void night() {
        MaskHall empty = new MaskHall();
        argumentThen("night: light out of range, and the canvas is empty", () -> empty.night(0), () -> empty.night(101));
        MaskHall plays = troupe(MaskHall.PLAYS);
        argumentThen("night: light out of range, while a night PLAYS", () -> plays.night(0), () -> plays.night(101));
    }

    private void comingsAndGoings() {
        for (MaskHall x : notPlaying()) {
            indexFirst("enter: no such mask, and no night PLAYS: " + x.state(), () -> x.enter(-1), () -> x.enter(6));
            indexFirst("exit: no such mask, and no night PLAYS: " + x.state(), () -> x.exit(-1), () -> x.exit(6));
        }
    }

    private void tellings() {
        MaskHall plays = troupe(MaskHall.PLAYS);
        indexFirst("tell: no such mask or secret, and both masks the same",
                () -> plays.tell(-1, -1, 0), () -> plays.tell(6, 6, 0), () -> plays.tell(0, 0, -1), () -> plays.tell(0, 0, 4));
        for (MaskHall x : notPlaying()) {
            indexFirst("tell: no such mask or secret, and no night PLAYS: " + x.state(),
                    () -> x.tell(6, 1, 0), () -> x.tell(0, -1, 0), () -> x.tell(0, 1, 4));
            argumentThen("tell: both masks the same, and no night PLAYS: " + x.state(), () -> x.tell(0, 0, 0));
        }
        indexFirst("tell: no such mask or secret, and a mask that is not on, or does not know it",
                () -> plays.tell(3, 6, 0), () -> plays.tell(6, 3, 0), () -> plays.tell(3, 1, 4), () -> plays.tell(1, -1, 0));
        argumentThen("tell: both masks the same, and not on", () -> plays.tell(3, 3, 0));
        argumentThen("tell: both masks the same, and it does not know it", () -> plays.tell(1, 1, 0));
        MaskHall banned = troupe(MaskHall.PLAYS);
        banned.ban(0);
        argumentThen("tell: both masks the same, and it is banned", () -> banned.tell(0, 0, 0));
        indexFirst("tell: no such mask, and it is banned", () -> banned.tell(0, 6, 0));
    }

    private void givings() {
        MaskHall plays = troupe(MaskHall.PLAYS);
        indexFirst("give: no such mask or prop, and both masks the same",
                () -> plays.give(-1, -1, 0), () -> plays.give(6, 6, 0), () -> plays.give(0, 0, -1), () -> plays.give(0, 0, 4));
        for (MaskHall x : notPlaying()) {
            indexFirst("give: no such mask or prop, and no night PLAYS: " + x.state(),
                    () -> x.give(6, 1, 0), () -> x.give(0, -1, 0), () -> x.give(0, 1, 4));
            argumentThen("give: both masks the same, and no night PLAYS: " + x.state(), () -> x.give(0, 0, 0));
        }
        indexFirst("give: no such mask or prop, and a mask that is not on, or has it not",
                () -> plays.give(3, 6, 0), () -> plays.give(6, 3, 0), () -> plays.give(3, 1, 4), () -> plays.give(1, -1, 0));
        argumentThen("give: both masks the same, and not on", () -> plays.give(3, 3, 0));
        argumentThen("give: both masks the same, and it has it not", () -> plays.give(1, 1, 0));
    }

    private void takings() {
        for (MaskHall x : notPlaying()) {
            indexFirst("take: no such mask or prop, and no night PLAYS: " + x.state(),
                    () -> x.take(-1, 1), () -> x.take(6, 1), () -> x.take(0, -1), () -> x.take(0, 4));
        }
        MaskHall plays = troupe(MaskHall.PLAYS);
        indexFirst("take: no such prop, and the mask is not on", () -> plays.take(3, -1), () -> plays.take(3, 4));
        indexFirst("take: no such mask, and somebody has the prop", () -> plays.take(-1, 0), () -> plays.take(6, 0));
    }

    private void greetings() {
        MaskHall plays = troupe(MaskHall.PLAYS);
        indexFirst("greet: no such mask, and both masks the same", () -> plays.greet(-1, -1), () -> plays.greet(6, 6));
        for (MaskHall x : notPlaying()) {
            indexFirst("greet: no such mask, and no night PLAYS: " + x.state(), () -> x.greet(-1, 1), () -> x.greet(0, 6));
            argumentThen("greet: both masks the same, and no night PLAYS: " + x.state(), () -> x.greet(0, 0));
        }
        indexFirst("greet: no such mask, and the other one is not on", () -> plays.greet(3, 6), () -> plays.greet(-1, 3));
        argumentThen("greet: both masks the same, and not on", () -> plays.greet(3, 3));
    }

    private void playedGags() {
        for (MaskHall x : notPlaying()) {
            indexFirst("play: no such gag or mask, and no night PLAYS: " + x.state(),
                    () -> x.play(-1, 0), () -> x.play(1, 0), () -> x.play(0, -1), () -> x.play(0, 6));
        }
        MaskHall plays = troupe(MaskHall.PLAYS);
        plays.gag(1, 1, 3);
        indexFirst("play: no such gag, and the mask is not on", () -> plays.play(2, 3), () -> plays.play(-1, 3));
        indexFirst("play: no such mask, and the prop that it needs lies about", () -> plays.play(1, 6), () -> plays.play(1, -1));
    }
}
