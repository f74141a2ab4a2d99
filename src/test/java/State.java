/** The states that a call can meet an object in, each reached by a run of calls on a new one. */
enum State {
    NEW(face -> { }),
    FED(Run.feed(Bytes.some(3, 1))),
    FULL(Run.feed(Bytes.some(300, 2))),
    OWNING(Run.own(Bytes.some(65, 3)).then(Run.feed(Bytes.some(8, 4)))),
    SEEDED(Run.seed(Bytes.some(20, 5))),
    SEEDED_AND_FED(SEEDED.run.then(Run.feed(Bytes.some(7, 6)))),
    SEEDED_AND_FULL(SEEDED.run.then(Run.feed(Bytes.some(300, 7)))),
    DRAWN(Run.own(Bytes.some(5, 8)).then(SEEDED.run).then(face -> face.draw(40))),
    DRAWN_AND_FED(DRAWN.run.then(Run.feed(Bytes.some(9, 9)))),
    OVER(DRAWN.run.then(face -> face.interval(1))),
    OVER_AND_FED(OVER.run.then(Run.feed(Bytes.some(10, 10)))),
    FORGOTTEN(DRAWN.run.then(Face::forget)),
    FORGOTTEN_AND_FED(FORGOTTEN.run.then(Run.feed(Bytes.some(11, 11))));

    final Run run;

    State(Run run) {
        this.run = run;
    }

    boolean isSeeded() {
        return reached().counter() > 0;
    }

    boolean isFed() {
        return reached().count(0) > 0;
    }

    boolean isOver() {
        Reference face = reached();
        return face.counter() > face.count(4);
    }

    Reference reached() {
        Reference face = new Reference();
        run.on(face);
        return face;
    }
}
