/** Yards in which something has happened already. */
final class Scenes {
    // The clays and glazes of furnished().
    static final int TOUGH = 0;
    static final int WEAK = 1;
    static final int PALE = 0;
    static final int RUSTY = 1;

    private Scenes() {
    }

    /**
     * A clay of top 12 and growth 3.0 and one of top 3 and growth 3.0; glazes
     * that suit both: of melts 2, growth 3.4 and iron 4, and the same with iron 5.
     */
    static KilnYard furnished() {
        KilnYard yard = new KilnYard();
        yard.clay(12, 12);
        yard.clay(3, 12);
        yard.glaze(1, 1, 2, 1, 4);
        yard.glaze(1, 1, 2, 1, 5);
        return yard;
    }

    /** A furnished yard with so many dry pots of the clay, each 1 wide, 1 high, with a wall of 1, not cracked. */
    static KilnYard withDryPots(int clay, int count) {
        KilnYard yard = furnished();
        for (int i = 0; i < count; i++) {
            yard.pot(clay, 1, 1, 1);
        }
        yard.dry(8, 2);
        return yard;
    }

    /** The same, with bisque pots. */
    static KilnYard withBisquePots(int clay, int count) {
        KilnYard yard = withDryPots(clay, count);
        for (int pot = 0; pot < count; pot++) {
            yard.set(pot, 1, pot);
        }
        fire(yard, 2);
        yard.unload();
        return yard;
    }

    /** The same, with glazed pots on shelf 1. */
    static KilnYard withGlazedPots(int clay, int count, int glaze) {
        KilnYard yard = withBisquePots(clay, count);
        for (int pot = 0; pot < count; pot++) {
            yard.dip(pot, glaze);
            yard.set(pot, 1, pot);
        }
        return yard;
    }

    /** The same, with pots that are done with cone 2 and have no marks. */
    static KilnYard withDonePots(int count, int glaze) {
        KilnYard yard = withGlazedPots(TOUGH, count, glaze);
        fire(yard, 2);
        yard.unload();
        return yard;
    }

    /**
     * Fires the kiln, of a power near 1, until shelf 1 has come to the cone (0 to 10)
     * and no further, and cools it below 100.0; cracks no pot with a wall of 1.
     */
    static void fire(KilnYard yard, int cone) {
        yard.forget();
        yard.ramp(200, 700, 0);
        if (cone < 2) {
            // Each step at 732 is 1.0 of work on shelf 1.
            yard.ramp(200, 732, cone == 0 ? 6 : 7);
        } else {
            // On shelf 1: 1.0, 2.0, 2.0, 3.0 and 4.0 of work on the way, then 4.0 a step.
            int needed = new int[] {16, 28, 44, 64, 88, 116, 148, 184, 224}[cone - 2];
            int hold = (needed - 12) / 4;
            yard.ramp(32, 764, 1);
            yard.ramp(32, 828, Math.min(hold, 20));
            yard.ramp(32, 828, Math.max(0, Math.min(hold - 20, 20)));
            yard.ramp(32, 828, Math.max(0, hold - 40));
        }
        yard.light();
        while (yard.burn(1)) {
            continue;
        }
        cool(yard);
    }

    /** From below 830.0 to below 100.0. */
    static void cool(KilnYard yard) {
        yard.burn(2);
        yard.door(true);
        yard.burn(8);
        yard.door(false);
    }

    /** Lights the kiln and burns it until it is at the target, where it is held for 20 steps. */
    static void heatTo(KilnYard yard, int target) {
        yard.forget();
        yard.ramp(200, target, 20);
        yard.light();
        while (yard.kiln(0) != target) {
            yard.burn(1);
        }
    }

    /** From a lit kiln at 180.0 that heatTo left, to one that is not lit and at 100.0. */
    static void coolToHundred(KilnYard yard) {
        yard.burn(20);
        yard.door(true);
        yard.burn(1);
        yard.door(false);
    }
}
