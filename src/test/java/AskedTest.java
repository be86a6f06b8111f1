/** Promises 20 to 25: what is asked. */
final class AskedTest {
    private static final Checks checks = new Checks();

    public static void main(String[] args) {
        promise20OfPot();
        promise20OfPotColour();
        promise21Water();
        promise22OfGlaze();
        promise22Melts();
        promise23Kiln();
        promise24OfShelfCone();
        promise24OfShelfCells();
        promise24OfShelfRefuses();
        promise25Many();
        promise25ManyRefuses();
        checks.end();
    }

    private static void promise20OfPot() {
        KilnYard yard = Scenes.withGlazedPots(Scenes.TOUGH, 2, Scenes.RUSTY);
        yard.cover(1, true);
        yard.pot(0, 1, 1, 1);
        checksPot(yard, 1, 3, Scenes.RUSTY, 0, 1, 1, 0, -1, 1);
        checksPot(yard, 2, 0, -1, 0, -1, -1, 0, -1, 0);
        checks.outOfBounds("ofPot -1", yard, () -> yard.ofPot(-1, 0));
        checks.outOfBounds("ofPot 3, and wrong", yard, () -> yard.ofPot(3, 8));
        checks.outOfBounds("ofPot 14", yard, () -> yard.ofPot(14, 0));
        checks.badArgument("ofPot of -1", yard, () -> yard.ofPot(0, -1));
        checks.badArgument("ofPot of 8", yard, () -> yard.ofPot(0, 8));
    }

    private static void checksPot(KilnYard yard, int pot, int... due) {
        for (int what = 0; what < due.length; what++) {
            checks.same("ofPot " + pot + " of " + what, yard.ofPot(pot, what), due[what]);
        }
    }

    private static void promise20OfPotColour() {
        KilnYard bisque = Scenes.withBisquePots(Scenes.TOUGH, 1);
        checks.same("STATE of a bisque pot", bisque.ofPot(0, 0), 2);
        checks.same("COLOUR of a bisque pot", bisque.ofPot(0, 6), -1);
        KilnYard glazed = Scenes.withGlazedPots(Scenes.WEAK, 1, Scenes.PALE);
        checks.same("COLOUR of a glazed pot", glazed.ofPot(0, 6), -1);
        Scenes.fire(glazed, 4);
        glazed.unload();
        checks.same("COLOUR of a broken pot", glazed.ofPot(0, 6), -1);
        KilnYard pale = Scenes.withDonePots(1, Scenes.PALE);
        checks.same("COLOUR with 4 IRON", pale.ofPot(0, 6), 0);
        pale.order(Scenes.PALE, 0, 0, 1);
        pale.meet(0, 0);
        checks.same("COLOUR of a sold pot", pale.ofPot(0, 6), 0);
        KilnYard rusty = Scenes.withDonePots(1, Scenes.RUSTY);
        checks.same("COLOUR with 5 IRON", rusty.ofPot(0, 6), 2);
    }

    private static void promise21Water() {
        KilnYard yard = Scenes.furnished();
        yard.pot(0, 1, 1, 4);
        checks.same("water", yard.water(0), 8.0);
        yard.cover(0, true);
        yard.dry(1, 1);
        checks.same("water then", yard.water(0), 7.9375);
        checks.outOfBounds("water of -1", yard, () -> yard.water(-1));
        checks.outOfBounds("water of 1", yard, () -> yard.water(1));
    }

    private static void promise22OfGlaze() {
        KilnYard yard = new KilnYard();
        yard.glaze(2, 8, 10, 50, 60);
        yard.glaze(60, 0, 0, 7, 0);
        yard.glaze(0, 3, 7, 0, 0);
        checks.same("GROWTH", yard.ofGlaze(0, 0), (16.0 + 32.0 + 20.0 + 50.0) / 70.0);
        checks.same("GROWTH without LIME", yard.ofGlaze(1, 0), 487.0 / 67.0);
        checks.same("GROWTH without SODA", yard.ofGlaze(2, 0), 2.6);
        checks.same("SILICA / ALUMINA", yard.ofGlaze(0, 1), 5.0);
        checks.same("without ALUMINA", yard.ofGlaze(1, 1), 99.0);
        checks.same("without SILICA", yard.ofGlaze(2, 1), 0.0);
        yard.glaze(1, 1, 3, 2, 0);
        checks.same("SILICA / ALUMINA not whole", yard.ofGlaze(3, 1), 2.0 / 3.0);
        checks.outOfBounds("ofGlaze -1", yard, () -> yard.ofGlaze(-1, 0));
        checks.outOfBounds("ofGlaze 4, and wrong", yard, () -> yard.ofGlaze(4, 3));
        checks.badArgument("ofGlaze of -1", yard, () -> yard.ofGlaze(0, -1));
        checks.badArgument("ofGlaze of 3", yard, () -> yard.ofGlaze(0, 3));
    }

    private static void promise22Melts() {
        // SODA, LIME, ALUMINA, SILICA, MELTS.
        int[][] glazes = {
            {1, 0, 0, 0, 0}, {0, 1, 0, 1, 0}, {1, 0, 0, 3, 2}, {1, 0, 0, 5, 2}, {1, 0, 1, 0, 2}, {1, 0, 3, 0, 4},
            {2, 0, 1, 0, 1}, {2, 0, 3, 0, 2}, {1, 1, 2, 3, 2}, {10, 0, 1, 8, 1}, {10, 0, 1, 6, 0}, {10, 0, 1, 7, 0},
            {10, 0, 9, 3, 2}, {10, 0, 9, 4, 2}, {1, 0, 0, 24, 12}, {1, 0, 0, 25, 12}, {1, 0, 0, 26, 12},
            {1, 0, 0, 23, 12}, {1, 0, 0, 22, 11}, {1, 0, 60, 60, 12}, {60, 60, 60, 60, 1}, {7, 3, 30, 41, 7},
        };
        for (int[] it : glazes) {
            KilnYard yard = new KilnYard();
            yard.glaze(it[0], it[1], it[2], it[3], 60);
            checks.same("MELTS of " + it[0] + " " + it[1] + " " + it[2] + " " + it[3], yard.ofGlaze(0, 2), it[4]);
        }
    }

    private static void promise23Kiln() {
        KilnYard yard = new KilnYard();
        yard.door(true);
        checks.same("GIVES with the door open", yard.kiln(2), 40.0);
        yard.door(false);
        yard.ramp(100, 740, 1);
        yard.ramp(10, 700, 0);
        yard.light();
        while (yard.kiln(0) != 740.0) {
            yard.burn(1);
        }
        double[] before = {yard.kiln(3), yard.kiln(4), yard.kiln(5)};
        yard.burn(1);
        checks.same("HEAT", yard.kiln(0), 740.0);
        checks.same("POWER", yard.kiln(1), 1.0);
        checks.same("GIVES", yard.kiln(2), 45.0);
        checks.same("WORK of shelf 0", yard.kiln(3), before[0] + 0.875);
        checks.same("WORK of shelf 1", yard.kiln(4), before[1] + 1.25);
        checks.same("WORK of shelf 2", yard.kiln(5), before[2] + 1.5);
        yard.burn(60);
        yard.unload();
        checks.same("POWER then", yard.kiln(1), 0.984375);
        checks.same("GIVES is of POWER", yard.kiln(2), 0.984375 * 90.0 - (yard.kiln(0) - 20.0) / 16.0);
        checks.badArgument("kiln of -1", yard, () -> yard.kiln(-1));
        checks.badArgument("kiln of 6", yard, () -> yard.kiln(6));
    }

    /** Comes to the work of each cone just so, and in another yard to 1.0 less of each. */
    private static void promise24OfShelfCone() {
        KilnYard yard = new KilnYard();
        // From 12.0 on, and 5.0 and 8.0 before.
        int reached = worksComeTo(yard, 764, 0) + worksComeTo(yard, 764, 0);
        checks.same("cones come to just so", reached, 12);
        checks.same("CONE", yard.ofShelf(1, 0), 12);
        KilnYard less = new KilnYard();
        // From 11.0 on, and 4.0 and 7.0 before.
        int missed = worksComeTo(less, 732, 1) + worksComeTo(less, 764, 1);
        checks.same("cones missed by just 1.0", missed, 12);
    }

    /**
     * Fires until the work is 330.0, in steps that end with 4.0 each.
     * Answers how many cones' works it came to, but for so much less.
     */
    private static int worksComeTo(KilnYard yard, int firstTarget, int less) {
        int[] works = {8, 16, 28, 44, 64, 88, 116, 148, 184, 224, 268, 316};
        yard.forget();
        yard.ramp(200, 700, 0);
        yard.ramp(32, firstTarget, 1);
        yard.ramp(32, 828, 20);
        yard.ramp(32, 828, 20);
        yard.ramp(32, 828, 20);
        yard.light();
        yard.burn(11);
        int reached = 0;
        double work = 0.0;
        do {
            work = yard.kiln(4);
            int due = 0;
            for (int needed : works) {
                due += work >= needed ? 1 : 0;
                reached += work == needed - less ? 1 : 0;
            }
            checks.same("CONE with a work of " + work, yard.ofShelf(1, 0), due);
            // With the door open as it goes out, it cools too fast for more work.
            yard.door(yard.wouldEnd() == 1);
        } while (yard.burn(1) && work < 330.0);
        yard.door(false);
        return reached;
    }

    private static void promise24OfShelfCells() {
        KilnYard yard = Scenes.furnished();
        yard.pot(0, 2, 1, 1);
        yard.pot(0, 1, 1, 1);
        yard.pot(0, 3, 1, 1);
        checksCells("empty", yard, 10, 0, 10);
        yard.set(0, 1, 3);
        checksCells("3 and 4 taken", yard, 8, 1, 5);
        yard.set(1, 1, 8);
        checksCells("8 taken too", yard, 7, 2, 3);
        yard.set(2, 1, 5);
        checksCells("5 to 7 taken too", yard, 4, 3, 3);
        yard.take(0);
        checksCells("3 and 4 free again", yard, 6, 2, 5);
        checks.same("free on shelf 0", yard.ofShelf(0, 1), 10);
        checks.same("free on shelf 2", yard.ofShelf(2, 1), 10);
        yard.ramp(200, 200, 0);
        yard.light();
        yard.burn(60);
        checks.same("BROKEN", yard.many(8), 2);
        checksCells("with broken pots", yard, 6, 2, 5);
    }

    private static void checksCells(String when, KilnYard yard, int free, int pots, int longest) {
        checks.same("free CELLS, " + when, yard.ofShelf(1, 1), free);
        checks.same("POTS, " + when, yard.ofShelf(1, 2), pots);
        checks.same("longest row, " + when, yard.ofShelf(1, 3), longest);
    }

    private static void promise24OfShelfRefuses() {
        KilnYard yard = new KilnYard();
        checks.outOfBounds("ofShelf -1", yard, () -> yard.ofShelf(-1, 0));
        checks.outOfBounds("ofShelf 3, and wrong", yard, () -> yard.ofShelf(3, 4));
        checks.badArgument("ofShelf of -1", yard, () -> yard.ofShelf(0, -1));
        checks.badArgument("ofShelf of 4", yard, () -> yard.ofShelf(2, 4));
    }

    private static void promise25Many() {
        KilnYard yard = Scenes.withDonePots(3, Scenes.PALE);
        yard.pot(Scenes.TOUGH, 1, 1, 1);
        yard.set(3, 2, 9);
        yard.order(Scenes.PALE, 0, 9, 50);
        yard.order(Scenes.PALE, 0, 9, 20);
        yard.order(Scenes.PALE, 0, 9, 30);
        yard.meet(1, 1);
        yard.bell();
        yard.bell();
        int clock = yard.many(1);
        int fuel = yard.many(10);
        yard.forget();
        yard.ramp(200, 100, 0);
        yard.ramp(200, 1400, 0);
        yard.ramp(200, 1400, 0);
        yard.light();
        yard.burn(2);
        yard.door(true);
        yard.dry(2, 1);
        checksMany(yard, 10, clock + 2, 1, 1, 0, 3, 4, 2, 1, 1, fuel(fuel, clock, 2), 0, 20, 2, 2, 1);
        yard.burn(60);
        checksMany(yard, 10, clock + 62, 0, -1, 0, 3, 4, 2, 1, 1, yard.many(10), 1, 20, 2, 2, 1);
    }

    private static int fuel(int fuel, int clock, int steps) {
        int due = fuel;
        for (int i = clock; i < clock + steps; i++) {
            int ofDay = i % 96;
            due += ofDay >= 32 && ofDay < 80 ? 2 : 1;
        }
        return due;
    }

    private static void checksMany(KilnYard yard, int... due) {
        for (int what = 0; what < due.length; what++) {
            checks.same("many of " + what, yard.many(what), due[what]);
        }
    }

    private static void promise25ManyRefuses() {
        KilnYard yard = new KilnYard();
        checks.badArgument("many of -1", yard, () -> yard.many(-1));
        checks.badArgument("many of 16", yard, () -> yard.many(16));
        checks.badArgument("many of the least", yard, () -> yard.many(Integer.MIN_VALUE));
    }
}
