/** Promises 26 to 30: what would be. */
final class WouldTest {
    private static final Checks checks = new Checks();

    public static void main(String[] args) {
        promise26WouldCone();
        promise26WouldConeRefuses();
        promise27WouldEnd();
        promise27WouldEndFar();
        promise28BestCones();
        promise28BestGrowths();
        promise28BestRefuses();
        promise29WouldHold();
        promise29WouldHoldWhich();
        promise29WouldHoldRefuses();
        promise30DigestOfNew();
        promise30Digest();
        checks.end();
    }

    /** With less power, what would be takes longer. */
    private static void wouldWithLessPower() {
        KilnYard yard = new KilnYard();
        for (int i = 0; i < 3; i++) {
            Scenes.fire(yard, 0);
            yard.unload();
        }
        yard.forget();
        yard.ramp(200, 1200, 0);
        yard.light();
        int would = yard.wouldEnd();
        int steps = 0;
        boolean isLit = true;
        while (isLit) {
            isLit = yard.burn(1);
            steps++;
        }
        checks.same("wouldEnd with less power", would, steps);
    }

    /** What it would be is what it is when those steps have gone by, and asking changes nothing. */
    private static void promise26WouldCone() {
        for (int steps = 1; steps <= 60; steps += 7) {
            for (int ahead = 0; ahead < 30; ahead += 10) {
                KilnYard yard = new KilnYard();
                yard.ramp(200, 800, 6);
                yard.ramp(30, 1000, 3);
                yard.ramp(100, 650, 0);
                yard.light();
                if (ahead > 0) {
                    yard.burn(ahead);
                }
                String before = Snapshot.of(yard);
                int[] would = {yard.wouldCone(0, steps), yard.wouldCone(1, steps), yard.wouldCone(2, steps)};
                checks.same("wouldCone leaves the yard", Snapshot.of(yard), before);
                yard.burn(steps);
                for (int shelf = 0; shelf < 3; shelf++) {
                    checks.same("wouldCone of " + steps, would[shelf], yard.ofShelf(shelf, 0));
                }
            }
        }
        wouldConeUnlit();
        wouldWithLessPower();
    }

    private static void wouldConeUnlit() {
        KilnYard yard = new KilnYard();
        checks.same("wouldCone of a new yard", yard.wouldCone(0, 60), 0);
        yard.ramp(200, 732, 6);
        yard.light();
        checks.same("wouldCone of little work", yard.wouldCone(1, 60), 0);
        yard.burn(60);
        yard.forget();
        yard.ramp(200, 1100, 0);
        yard.light();
        while (yard.kiln(0) < 1000.0) {
            yard.burn(1);
        }
        int cone = yard.ofShelf(2, 0);
        yard.burn(60);
        checks.same("CONE goes on", yard.ofShelf(2, 0) > cone, true);
    }

    private static void promise26WouldConeRefuses() {
        KilnYard yard = new KilnYard();
        checks.outOfBounds("wouldCone of shelf -1", yard, () -> yard.wouldCone(-1, 1));
        checks.outOfBounds("wouldCone of shelf 3, and wrong", yard, () -> yard.wouldCone(3, 0));
        checks.badArgument("wouldCone of 0 steps", yard, () -> yard.wouldCone(0, 0));
        checks.badArgument("wouldCone of 61 steps", yard, () -> yard.wouldCone(2, 61));
    }

    private static void promise27WouldEnd() {
        KilnYard yard = new KilnYard();
        checks.same("wouldEnd of a new yard", yard.wouldEnd(), 0);
        yard.ramp(40, 100, 0);
        checks.same("wouldEnd unlit", yard.wouldEnd(), 0);
        yard.light();
        String before = Snapshot.of(yard);
        checks.same("wouldEnd", yard.wouldEnd(), 3);
        checks.same("wouldEnd leaves the yard", Snapshot.of(yard), before);
        yard.burn(1);
        checks.same("wouldEnd a step on", yard.wouldEnd(), 2);
        yard.burn(1);
        checks.same("wouldEnd two steps on", yard.wouldEnd(), 1);
        yard.burn(1);
        checks.same("wouldEnd three steps on", yard.wouldEnd(), 0);
        yard.forget();
        yard.ramp(200, 660, 0);
        yard.light();
        yard.door(true);
        int steps = yard.wouldEnd();
        yard.burn(steps - 1);
        checks.same("LIT before the stall", yard.many(2), 1);
        checks.same("no stall yet", yard.many(11), 0);
        checks.same("a stall ends it", yard.burn(1), false);
        checks.same("STALLS", yard.many(11), 1);
    }

    private static void promise27WouldEndFar() {
        KilnYard yard = new KilnYard();
        yard.ramp(10, 1000, 20);
        yard.ramp(10, 500, 20);
        yard.ramp(10, 900, 20);
        yard.ramp(10, 500, 20);
        yard.light();
        // 98 up, 50 down, 40 up and 40 down, 80 held, and the step that ends it.
        checks.same("wouldEnd of 309 steps", yard.wouldEnd(), -1);
        yard.burn(8);
        checks.same("wouldEnd of 301 steps", yard.wouldEnd(), -1);
        yard.burn(1);
        checks.same("wouldEnd of 300 steps", yard.wouldEnd(), 300);
        yard.burn(1);
        checks.same("wouldEnd of 299 steps", yard.wouldEnd(), 299);
        checks.same("many of 1", yard.many(1), 10);
    }

    private static void promise28BestCones() {
        KilnYard yard = new KilnYard();
        yard.clay(1, 12);
        // Melts 4, growth 1.6857...
        checks.same("best without a glaze", yard.best(0, 5), -1);
        yard.glaze(2, 8, 10, 50, 0);
        int[] due = {-1, -1, -1, 0, 0, 0, -1, -1, -1, -1, -1, -1};
        for (int cone = 1; cone <= 12; cone++) {
            checks.same("best with cone " + cone, yard.best(0, cone), due[cone - 1]);
        }
    }

    private static void promise28BestGrowths() {
        KilnYard yard = new KilnYard();
        yard.clay(12, 8);
        yard.clay(12, 24);
        yard.clay(12, 25);
        // Growths 4.0, 4.0, 5.0 and 8.0, all of melts 0.
        yard.glaze(0, 1, 0, 0, 0);
        checks.same("above by 2.0", yard.best(0, 1), 0);
        checks.same("below by 2.0", yard.best(1, 2), 0);
        checks.same("below by 2.25", yard.best(2, 1), -1);
        yard.glaze(0, 2, 0, 0, 0);
        checks.same("of two the smallest number", yard.best(1, 1), 0);
        yard.glaze(1, 3, 0, 0, 0);
        checks.same("the nearest, from below", yard.best(1, 1), 2);
        checks.same("not below by 1.25", yard.best(2, 1), 2);
        checks.same("not above by 3.0", yard.best(0, 1), 0);
        yard.glaze(1, 0, 0, 0, 0);
        checks.same("nearer than one above by 2.0", yard.best(1, 1), 2);
        KilnYard two = new KilnYard();
        two.clay(12, 20);
        // Growths 6.0, 4.0, 5.0.
        two.glaze(1, 1, 0, 0, 0);
        two.glaze(0, 1, 0, 0, 0);
        checks.same("above and below by 1.0", two.best(0, 1), 0);
        two.glaze(1, 3, 0, 0, 0);
        checks.same("just that", two.best(0, 1), 2);
        two.glaze(0, 1, 0, 8, 0);
        checks.same("the nearest melts at 4", two.best(0, 3), -1);
        checks.same("its growth is too low", two.best(0, 4), -1);
        nearByLess();
    }

    /** Growths 4.5 and 4.0 on a clay of 4.0. */
    private static void nearByLess() {
        KilnYard yard = new KilnYard();
        yard.clay(12, 16);
        yard.glaze(1, 7, 0, 0, 0);
        checks.same("above by 0.5", yard.best(0, 1), 0);
        yard.glaze(0, 1, 0, 0, 0);
        checks.same("just that, and not above by 0.5", yard.best(0, 1), 1);
    }

    private static void promise28BestRefuses() {
        KilnYard yard = Scenes.furnished();
        checks.outOfBounds("best on clay -1", yard, () -> yard.best(-1, 1));
        checks.outOfBounds("best on clay 2, and wrong", yard, () -> yard.best(2, 0));
        checks.outOfBounds("best on clay 3", yard, () -> yard.best(3, 1));
        checks.badArgument("best with cone 0", yard, () -> yard.best(0, 0));
        checks.badArgument("best with cone 13", yard, () -> yard.best(0, 13));
    }

    private static void promise29WouldHold() {
        KilnYard yard = Scenes.furnished();
        checks.same("no pots", yard.wouldHold(0), 0);
        int[] widths = {4, 4, 3};
        int[] due = {4, 8, 8};
        for (int i = 0; i < widths.length; i++) {
            yard.pot(0, widths[i], 1, 1);
            yard.dry(8, 2);
            checks.same("with pot " + i, yard.wouldHold(0), due[i]);
        }
        yard.pot(0, 2, 1, 1);
        checks.same("a wet pot does not count", yard.wouldHold(0), 8);
        yard.dry(8, 2);
        checks.same("4, 4 and 2", yard.wouldHold(0), 10);
        yard.pot(0, 1, 1, 1);
        yard.set(4, 0, 4);
        checks.same("a row of 5", yard.wouldHold(0), 5);
        yard.take(4);
        yard.set(4, 0, 6);
        checks.same("a row of 6", yard.wouldHold(0), 6);
        yard.set(0, 2, 0);
        checks.same("4 and 2 without the first", yard.wouldHold(0), 6);
        yard.set(3, 2, 4);
        checks.same("4 or 3", yard.wouldHold(0), 4);
        checks.same("4 alone on shelf 2", yard.wouldHold(2), 4);
        checks.same("4 and 3 on shelf 1", yard.wouldHold(1), 7);
        yard.ramp(200, 1000, 20);
        yard.light();
        yard.burn(30);
        checks.same("the kiln LIT and hot alike", yard.wouldHold(1), 7);
    }

    private static void promise29WouldHoldWhich() {
        KilnYard yard = Scenes.furnished();
        yard.pot(Scenes.TOUGH, 5, 3, 1);
        yard.pot(Scenes.TOUGH, 3, 2, 1);
        yard.dry(8, 2);
        checks.same("height 3 on shelf 0", yard.wouldHold(0), 8);
        checks.same("height 3 on shelf 1", yard.wouldHold(1), 8);
        checks.same("height 3 on shelf 2", yard.wouldHold(2), 3);
        yard.set(0, 1, 0);
        Scenes.fire(yard, 2);
        yard.unload();
        checks.same("a bisque pot does not count", yard.wouldHold(0), 3);
        yard.dip(0, 0);
        checks.same("a glazed pot counts", yard.wouldHold(0), 8);
        yard.set(0, 1, 0);
        checks.same("a pot on a shelf does not count", yard.wouldHold(1), 3);
        Scenes.fire(yard, 2);
        yard.unload();
        checks.same("a done pot does not count", yard.wouldHold(1), 3);
        manyPotsOnce();
    }

    /** Fourteen pots 5 wide are 70 in all: no sum may wrap around. */
    private static void manyPotsOnce() {
        KilnYard yard = Scenes.furnished();
        for (int pot = 0; pot < 14; pot++) {
            yard.pot(0, 5, 1, 1);
        }
        yard.dry(8, 2);
        checks.same("two of fourteen", yard.wouldHold(0), 10);
        for (int pot = 0; pot < 5; pot++) {
            yard.set(pot, pot / 2, pot % 2 * 5);
        }
        checks.same("full", yard.wouldHold(0), 0);
        checks.same("longest row of a full shelf", yard.ofShelf(0, 3), 0);
        checks.same("one of nine", yard.wouldHold(2), 5);
        KilnYard one = Scenes.withDryPots(Scenes.TOUGH, 1);
        checks.same("each once", one.wouldHold(0), 1);
    }

    private static void promise29WouldHoldRefuses() {
        KilnYard yard = new KilnYard();
        checks.outOfBounds("wouldHold of shelf -1", yard, () -> yard.wouldHold(-1));
        checks.outOfBounds("wouldHold of shelf 3", yard, () -> yard.wouldHold(3));
    }

    private static void promise30DigestOfNew() {
        KilnYard yard = new KilnYard();
        checks.same("digest of a new yard", yard.digest(), -1062536170137542138L);
        checks.same("digest again", yard.digest(), -1062536170137542138L);
        yard.bell();
        checks.same("digest is another", yard.digest() != -1062536170137542138L, true);
    }

    private static void promise30Digest() {
        KilnYard yard = Scenes.withGlazedPots(Scenes.TOUGH, 3, Scenes.RUSTY);
        checks.same("digest of glazed pots", yard.digest(), digestOf(yard, 3, 2));
        yard.pot(1, 2, 3, 4);
        yard.pot(1, 3, 3, 2);
        yard.pot(1, 1, 1, 1);
        yard.dry(2, 8);
        yard.cover(3, true);
        yard.set(4, 0, 6);
        yard.glaze(3, 4, 5, 60, 7);
        yard.forget();
        yard.ramp(150, 900, 3);
        yard.ramp(50, 1200, 3);
        yard.light();
        yard.damper(4);
        checks.same("WIDTHS that a shelf would hold", yard.wouldHold(0), 1);
        while (yard.wouldCone(2, 20) == yard.wouldCone(2, 21)) {
            yard.burn(1);
        }
        checks.same("digest before a cone", yard.digest(), digestOf(yard, 6, 3));
        yard.burn(1);
        checks.same("digest of a lit kiln", yard.digest(), digestOf(yard, 6, 3));
        yard.burn(23);
        checks.same("digest of a hot kiln", yard.digest(), digestOf(yard, 6, 3));
    }

    private static long digestOf(KilnYard yard, int pots, int glazes) {
        long d = 58303;
        for (int what = 0; what <= 15; what++) {
            d = d * 31 + yard.many(what);
        }
        for (int pot = 0; pot < pots; pot++) {
            for (int what = 0; what <= 7; what++) {
                d = d * 31 + yard.ofPot(pot, what);
            }
            d = d * 31 + (long) (64 * yard.water(pot));
        }
        for (int glaze = 0; glaze < glazes; glaze++) {
            d = d * 31 + (long) (64 * yard.ofGlaze(glaze, 0));
            d = d * 31 + (long) yard.ofGlaze(glaze, 2);
        }
        for (int shelf = 0; shelf < 3; shelf++) {
            for (int what = 0; what <= 3; what++) {
                d = d * 31 + yard.ofShelf(shelf, what);
            }
            d = d * 31 + yard.wouldHold(shelf);
            d = d * 31 + yard.wouldCone(shelf, 20);
        }
        d = d * 31 + (long) (64 * yard.kiln(0));
        d = d * 31 + (long) (64 * yard.kiln(1));
        return d * 31 + yard.wouldEnd();
    }
}
