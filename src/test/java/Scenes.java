/** Yards in which something has happened already. */
final class Scenes {
    // The clays and glazes of furnished().
    static final int TOUGH = 0;
    static final int WEAK = 1;
    static final int PALE = 0;
    static final int RUSTY = 1;

    private Scenes() {
    }

    /**
     * A clay of top 12 and growth 3.0 and one of top 3 and growth 3.0; glazes
     * that suit both: of melts 2, growth 3.4 and iron 4, and the same with iron 5.
     */
    static KilnYard furnished() {
        KilnYard yard = new KilnYard();
        yard.clay(12, 12);
        yard.clay(3, 12);
        yard.glaze(1, 1, 2, 1, 4);
        yard.glaze(1, 1, 2, 1, 5);
        return yard;
    }

    /** A furnished yard with so many dry pots of the clay, each 1 wide, 1 high, with a wall of 1, not cracked. */
    static KilnYard withDryPots(int clay, int count) {
        KilnYard yard = furnished();
        for (int i = 0; i < count; i++) {
            yard.pot(clay, 1, 1, 1);
        }
        yard.dry(8, 2);
        return yard;
    }

    /** The same, with bisque pots. */
    static KilnYard withBisquePots(int clay, int count) {
        KilnYard yard = withDryPots(clay, count);
        for (int pot = 0; pot < count; pot++) {
            yard.set(pot, 1, pot);
        }
        fire(yard, 2);
        yard.unload();
        return yard;
    }

    /** The same, with glazed pots on shelf 1. */
    static KilnYard withGlazedPots(int clay, int count, int glaze) {
        KilnYard yard = withBisquePots(clay, count);
        for (int pot = 0; pot < count; pot++) {
            yard.dip(pot, glaze);
            yard.set(pot, 1, pot);
        }
        return yard;
    }

    /** The same, with pots that are done with cone 2 and have no marks. */
    static KilnYard withDonePots(int count, int glaze) {
        KilnYard yard = withGlazedPots(TOUGH, count, glaze);
        fire(yard, 2);
        yard.unload();
        return yard;
    }

    /**
     * Fires the kiln, of a power near 1, until shelf 1 has come to the cone (0 to 10)
     * and no further, and cools it below 100.0; cracks no pot with a wall of 1.
     */
    static void fire(KilnYard yard, int cone) {
        yard.forget();
        yard.ramp(200, 700, 0);
        if (cone < 2) {
            // Each step at 732 is 1.0 of work on shelf 1.
            yard.ramp(200, 732, cone == 0 ? 6 : 7);
        } else {
            // On shelf 1: 1.0, 2.0, 2.0, 3.0 and 4.0 of work on the way, then 4.0 a step.
            int needed = new int[] {16, 28, 44, 64, 88, 116, 148, 184, 224}[cone - 2];
            int hold = (needed - 12) / 4;
            yard.ramp(32, 764, 1);
            yard.ramp(32, 828, Math.min(hold, 20));
            yard.ramp(32, 828, Math.max(0, Math.min(hold - 20, 20)));
            yard.ramp(32, 828, Math.max(0, hold - 40));
        }
        yard.light();
        while (yard.burn(1)) {
            continue;
        }
        cool(yard);
    }

    /** From below 830.0 to below 100.0. */
    static void cool(KilnYard yard) {
        yard.burn(2);
        yard.door(true);
        yard.burn(8);
        yard.door(false);
    }

    /** Lights the kiln and burns it until it is at the target, where it is held for 20 steps. */
    static void heatTo(KilnYard yard, int target) {
        yard.forget();
        yard.ramp(200, target, 20);
        yard.light();
        while (yard.kiln(0) != target) {
            yard.burn(1);
        }
    }

    /** From a lit kiln at 180.0 that heatTo left, to one that is not lit and at 100.0. */
    static void coolToHundred(KilnYard yard) {
        yard.burn(20);
        yard.door(true);
        yard.burn(1);
        yard.door(false);
    }

    /**
     * A furnished yard of seven pots on no shelf, each of the state that is its number;
     * 5 has burst, the others have no marks.
     */
    static KilnYard withAllStates() {
        KilnYard yard = furnished();
        for (int pot = 0; pot < 7; pot++) {
            yard.pot(TOUGH, 1, 1, 1);
        }
        // On a shelf they don't dry.
        yard.set(0, 0, 0);
        yard.set(5, 0, 1);
        yard.dry(8, 2);
        yard.take(0);
        for (int pot : new int[] {2, 3, 4, 6}) {
            yard.set(pot, 1, pot);
        }
        fire(yard, 2);
        yard.unload();
        for (int pot : new int[] {4, 6}) {
            yard.dip(pot, PALE);
            yard.set(pot, 1, pot);
        }
        fire(yard, 2);
        yard.unload();
        yard.dip(3, PALE);
        yard.order(PALE, 0, 0, 1);
        yard.meet(0, 6);
        return yard;
    }

    /** All that a yard can be told: 3 clays, 4 glazes, 14 pots, 5 ramps and 6 orders. */
    static KilnYard full() {
        KilnYard yard = furnished();
        yard.clay(8, 20);
        yard.glaze(3, 7, 10, 40, 0);
        yard.glaze(0, 9, 5, 60, 20);
        for (int pot = 0; pot < 14; pot++) {
            yard.pot(pot % 3, 1 + pot % 5, 1 + pot % 3, 1 << pot % 3);
        }
        for (int ramp = 0; ramp < 5; ramp++) {
            yard.ramp(30, 500 + 100 * ramp, ramp);
        }
        for (int order = 0; order < 6; order++) {
            yard.order(order % 4, order % 3, order, 10 + order);
        }
        return yard;
    }

    /** A pot of that wall, 1 wide, 1 high, dry and not cracked, on cell 0 of the shelf. */
    static KilnYard withPotOnShelf(int wall, int shelf) {
        KilnYard yard = furnished();
        yard.pot(TOUGH, 1, 1, wall);
        // 1.0, 0.5 or 0.25 of water a day.
        yard.dry(16, 2);
        yard.dry(16, 2);
        yard.set(0, shelf, 0);
        return yard;
    }

    static void burnOn(KilnYard yard, int steps) {
        for (int left = steps; left > 0; left -= 60) {
            yard.burn(Math.min(left, 60));
        }
    }

    /** Leaves a kiln that is lit, at the target just now, with nothing held and no other ramp. */
    static void arriveAt(KilnYard yard, int target) {
        yard.forget();
        // No pot cracks by this.
        yard.ramp(30, target, 0);
        yard.light();
        burnOn(yard, yard.wouldEnd() - 1);
    }

    /** Leaves a kiln that has gone out at the target, and cooled for so many steps with the door shut, then open. */
    static void coolFrom(KilnYard yard, int target, int shut, int open) {
        arriveAt(yard, target);
        burnOn(yard, shut);
        yard.door(true);
        burnOn(yard, open);
        yard.door(false);
    }

    /**
     * Adds so many 32nds of work to shelf 1, up to 60 * 32, and cools the kiln below
     * 100.0 with the door shut; cracks no pot with a wall of 1.
     */
    static void addWork(KilnYard yard, int thirtySeconds) {
        yard.forget();
        yard.ramp(200, 700, 0);
        if (thirtySeconds % 32 > 0) {
            yard.ramp(200, 700 + thirtySeconds % 32, 0);
        }
        int whole = thirtySeconds / 32;
        if (whole > 0) {
            // A step at 732 is 1.0 of work; the one in which it comes there is not held.
            int held = whole - 1;
            yard.ramp(200, 732, Math.min(held, 20));
            yard.ramp(200, 732, Math.max(0, Math.min(held - 20, 20)));
            yard.ramp(200, 732, Math.max(0, held - 40));
        }
        yard.light();
        burnOn(yard, yard.wouldEnd());
        yard.burn(20);
    }

    /**
     * Fires the kiln to 820.0 and cone 2, smokes what is on shelf 1 in so many steps of
     * that, up to 4, and cools it below 100.0.
     */
    static void smoke(KilnYard yard, int steps) {
        yard.forget();
        yard.ramp(30, 820, 4);
        yard.light();
        burnOn(yard, yard.wouldEnd() - 5);
        if (steps > 0) {
            yard.damper(4);
            yard.burn(steps);
            yard.damper(0);
        }
        yard.burn(60);
    }

    /** A new kiln, lit for that one ramp. */
    static KilnYard lit(int rate, int target, int hold) {
        KilnYard yard = new KilnYard();
        yard.ramp(rate, target, hold);
        yard.light();
        return yard;
    }

    /** Lit at 20.0, with a program that comes to 100.0 in its first step and goes out in the second. */
    static KilnYard litAfter(int steps) {
        KilnYard yard = lit(80, 100, 0);
        for (int step = 0; step < steps; step++) {
            yard.burn(1);
        }
        return yard;
    }
}
