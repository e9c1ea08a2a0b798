public final class P19LifeOfAll {
    private static final Check C = new Check();

    private static void asWritten() {
        for (int every = 1; every <= 20; every++) {
            GapLines x = Check.store(7, 2, every % 5, 11, every);
            GapLines y = Check.store(7, 2, every % 5, 11, every);
            x.hammer(5, 4);
            y.hammer(5, 4);
            int due = 0;
            while (y.about(9) == 0) {
                y.hammer(due % 7, 1);
                due++;
            }
            String before = Check.seen(x);
            C.answers("lifeOfAll() with " + every, due, x::lifeOfAll);
            C.same("the store behind lifeOfAll()", before, Check.seen(x));
        }
    }

    private static void edges() {
        // No move in 50 writes: each medium is at its end by its fifth write.
        int[] due = {17, 18, 19, 20, 33};
        for (int spares = 0; spares <= 4; spares++) {
            GapLines x = Check.store(4, 1, spares, 5, 50);
            C.answers("lifeOfAll() with " + spares + " spares", due[spares], x::lifeOfAll);
        }
        C.answers("lifeOfAll() of a dead store", 0, () -> Check.exampleDead().lifeOfAll());
        C.answers("lifeOfAll() without an end", 4000, () -> Check.store(32, 1, 4, 999, 50).lifeOfAll());
        C.fails("lifeOfAll() without a store", Check.STATE, () -> new GapLines().lifeOfAll());
        GapLines x = Check.example();
        x.lifeOfAll();
        C.answers("undo(): lifeOfAll is no action", 7, x::undo);
    }

    private static void nearTheBound() {
        boolean below = false;
        for (int endurance = 5; endurance <= 999; endurance += 2) {
            GapLines x = Check.store(5, 2, 1, endurance, 3);
            GapLines y = Check.store(5, 2, 1, endurance, 3);
            int due = 0;
            for (int i = 0; i < 16; i++) {
                due += y.all(50);
            }
            int bounded = due;
            below |= due > 3950 && due < 4000;
            C.answers("lifeOfAll() with the endurance " + endurance, bounded, x::lifeOfAll);
        }
        if (!below) {
            C.tell("no life just below 4000 was tried");
        }
    }

    public static void main(String[] args) {
        asWritten();
        edges();
        nearTheBound();
        C.end();
    }
}
