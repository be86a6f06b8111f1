/**
 * Heats just beside whole numbers: to where a kiln has cooled from one of these
 * targets it rises and falls by whole numbers, and so comes just beside any boundary.
 */
final class NearHeat {
    // A target, and the steps with the door shut and then open in which a kiln cools from it
    // to 63.0002.., 63.9993.., 66.0006.. and 96.9989..
    static final int[] ABOVE_63 = {239, 7, 1};
    static final int[] BELOW_64 = {689, 10, 2};
    static final int[] ABOVE_66 = {173, 9, 0};
    static final int[] BELOW_97 = {689, 11, 1};

    private NearHeat() {
    }

    static void cool(KilnYard yard, int[] from) {
        Scenes.coolFrom(yard, from[0], from[1], from[2]);
    }

    /** A pot of that wall, not cracked, on the shelf of a kiln that cooled before it was set there. */
    static KilnYard warm(int wall, boolean isDry, int shelf, int[] from) {
        KilnYard yard = Scenes.furnished();
        yard.pot(0, 1, 1, wall);
        if (isDry) {
            yard.dry(16, 2);
            yard.dry(16, 2);
        }
        cool(yard, from);
        yard.set(0, shelf, 0);
        return yard;
    }

    /** Leaves a kiln that is lit, and has risen by the rate in each of so many steps. */
    static void rise(KilnYard yard, int rate, int steps) {
        yard.forget();
        yard.ramp(rate, 1400, 0);
        yard.light();
        Scenes.burnOn(yard, steps);
    }

    /** Lets a lit kiln that is hotter than 644.0 stall, and lights it to fall by the rate to the target. */
    static void fall(KilnYard yard, int rate, int target) {
        yard.door(true);
        yard.burn(1);
        yard.door(false);
        yard.forget();
        yard.ramp(rate, target, 0);
        yard.light();
    }
}
