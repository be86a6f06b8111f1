import java.util.Arrays;

/**
 * Promises 1 to 9, sentence by sentence: the boundary cases of what is told.
 * The remark on each test names its promise and quotes the sentence that it holds.
 */
final class ToldEdgesTest {
    private static final Checks checks = new Checks();
    private static final Twins twins = new Twins(checks);

    public static void main(String[] args) {
        promise1NoClays();
        promise1AtFirst();
        promise1For512Calls();
        promise2AtMost3();
        promise2Top();
        promise2Growth();
        promise2Order();
        promise3AtMost4();
        promise3Parts();
        promise3Flux();
        promise3Order();
        promise3MeltsRounded();
        promise3MeltsAtMost12();
        promise3Growth();
        promise4Clay();
        promise4Width();
        promise4Height();
        promise4Wall();
        promise4AtMost14();
        promise4Order();
        promise4AtFirst();
        promise5Pot();
        promise5Was();
        promise6Days();
        promise6Air();
        promise6AtMost200();
        promise6Order();
        promise6Loses();
        promise6NotOnShelf();
        promise6NoMoreThanWater();
        promise6Cracked();
        promise6ReallyLoses();
        promise6Dry();
        promise6HowMany();
        promise7Pot();
        promise7Glaze();
        promise7NotBisque();
        promise7Order();
        promise7Melts();
        promise8Pot();
        promise8Shelf();
        promise8Cell();
        promise8Lit();
        promise8Colder();
        promise8State();
        promise8OnShelf();
        promise8Higher();
        promise8CellsThere();
        promise8CellsFree();
        promise8FreeThen();
        promise8Order();
        promise9Pot();
        promise9Lit();
        promise9Colder();
        promise9NoShelf();
        promise9Broken();
        promise9Order();
        checks.end();
    }

    /** Promise 1: "Creates a yard without CLAYS." */
    private static void promise1NoClays() {
        twins.outOfBounds("a pot in a new yard", KilnYard::new, yard -> yard.pot(0, 1, 1, 1));
        twins.outOfBounds("best in a new yard", KilnYard::new, yard -> yard.best(0, 1));
        checks.same("the first clay of a new yard", new KilnYard().clay(1, 8), 0);
    }

    /**
     * Promise 1, and what the terms say "at first": "DAY is 0 at first", "HEAT (double) is 20.0 at first; POWER
     * (float) is 1f at first; the DAMPER is 0 to 4 (0 at first); the DOOR is shut at first",
     * "the PURSE (0 at first)", "WORK (double; 0.0 at first)", "the CLOCK, which counts them from 0 on".
     */
    private static void promise1AtFirst() {
        KilnYard yard = new KilnYard();
        checks.same("DAY at first", yard.many(0), 0);
        checks.same("CLOCK at first", yard.many(1), 0);
        checks.same("LIT at first", yard.many(2), 0);
        checks.same("RAMPS at first", yard.many(5), 0);
        checks.same("POTS at first", yard.many(6), 0);
        checks.same("FUEL at first", yard.many(10), 0);
        checks.same("STALLS at first", yard.many(11), 0);
        checks.same("PURSE at first", yard.many(12), 0);
        checks.same("ORDERS at first", yard.many(13), 0);
        checks.same("REFUSED at first", yard.many(14), 0);
        checks.same("HEAT at first", yard.kiln(0), 20.0);
        checks.same("POWER at first", yard.kiln(1), 1.0);
        for (int shelf = 0; shelf < 3; shelf++) {
            checks.same("WORK at first", yard.kiln(3 + shelf), 0.0);
        }
        checks.same("DAMPER at first", yard.damper(4), 0);
        checks.same("the DOOR open at first", yard.door(true), false);
    }

    /** Promise 1: "An object is used for at most 512 calls after it has been made": the 512th still answers right. */
    private static void promise1For512Calls() {
        KilnYard rung = new KilnYard();
        KilnYard burnt = new KilnYard();
        KilnYard retold = new KilnYard();
        KilnYard refusing = new KilnYard();
        int refused = 0;
        for (int call = 1; call <= 511; call++) {
            rung.bell();
            burnt.burn(60);
            if (call % 2 == 1) {
                checks.same("ramp behind a forget", retold.ramp(10, 100, 0), 0);
            } else {
                checks.same("forget", retold.forget(), 1);
            }
            try {
                refusing.burn(0);
            } catch (IllegalArgumentException e) {
                refused++;
            }
        }
        checks.same("the 512th bell", rung.bell(), 512);
        checks.same("CLOCK as the 512th call", burnt.many(1), 511 * 60);
        checks.same("RAMPS as the 512th call", retold.many(5), 1);
        checks.same("calls that were refused", refused, 511);
        checks.same("CLOCK behind them", refusing.many(1), 0);
    }

    // ---- clay

    private static KilnYard withClays(int count) {
        KilnYard yard = new KilnYard();
        for (int clay = 0; clay < count; clay++) {
            yard.clay(12, 12);
        }
        return yard;
    }

    /** Promise 2: "CLAYS: at most 3, numbered from 0", "IllegalStateException if there are 3". */
    private static void promise2AtMost3() {
        KilnYard yard = new KilnYard();
        for (int clay = 0; clay < 3; clay++) {
            checks.same("clay", yard.clay(12, 12), clay);
        }
        twins.badState("a fourth clay", () -> withClays(3), it -> it.clay(12, 12));
    }

    /** Promise 2: "IllegalArgumentException if top is not 1 to 12". */
    private static void promise2Top() {
        KilnYard yard = new KilnYard();
        checks.same("clay of top 1", yard.clay(1, 12), 0);
        checks.same("clay of top 12", yard.clay(12, 12), 1);
        for (int top : Twins.outside(1, 12)) {
            twins.badArgument("clay of top " + top, KilnYard::new, it -> it.clay(top, 12));
        }
    }

    /** Promise 2: "IllegalArgumentException if .. growth not 8 to 40". */
    private static void promise2Growth() {
        KilnYard yard = new KilnYard();
        checks.same("clay of growth 8", yard.clay(12, 8), 0);
        checks.same("clay of growth 40", yard.clay(12, 40), 1);
        // Growth 4.0 is just 2.0 above the one, and 8.0 just 2.0 below the other.
        yard.glaze(0, 1, 0, 0, 0);
        yard.glaze(1, 0, 0, 0, 0);
        checks.same("8 quarters are 2.0", yard.best(0, 1), 0);
        checks.same("40 quarters are 10.0", yard.best(1, 1), 1);
        for (int growth : Twins.outside(8, 40)) {
            twins.badArgument("clay of growth " + growth, KilnYard::new, it -> it.clay(12, growth));
        }
    }

    /** Promise 2: "If several exceptions apply, the one that is named first is thrown." */
    private static void promise2Order() {
        twins.badArgument("a fourth clay of top 0", () -> withClays(3), yard -> yard.clay(0, 12));
        twins.badArgument("a fourth clay of growth 41", () -> withClays(3), yard -> yard.clay(12, 41));
    }

    // ---- glaze

    private static KilnYard withGlazes(int count) {
        KilnYard yard = new KilnYard();
        for (int glaze = 0; glaze < count; glaze++) {
            yard.glaze(1, 1, 1, 1, 1);
        }
        return yard;
    }

    private static int told(KilnYard yard, int[] parts) {
        return yard.glaze(parts[0], parts[1], parts[2], parts[3], parts[4]);
    }

    /** Promise 3: "GLAZES: at most 4, numbered from 0", "IllegalStateException if there are 4". */
    private static void promise3AtMost4() {
        KilnYard yard = new KilnYard();
        for (int glaze = 0; glaze < 4; glaze++) {
            checks.same("glaze", yard.glaze(1, 1, 1, 1, 1), glaze);
        }
        twins.badState("a fifth glaze", () -> withGlazes(4), it -> it.glaze(1, 1, 1, 1, 1));
    }

    /** Promise 3: "IllegalArgumentException if one of these is not 0 to 60". */
    private static void promise3Parts() {
        for (int part = 0; part < 5; part++) {
            for (int inside : new int[] {0, 60}) {
                int[] parts = {30, 30, 30, 30, 30};
                parts[part] = inside;
                checks.same("glaze of " + Arrays.toString(parts), told(new KilnYard(), parts), 0);
            }
            for (int outside : Twins.outside(0, 60)) {
                int[] parts = {30, 30, 30, 30, 30};
                parts[part] = outside;
                twins.badArgument("glaze of " + Arrays.toString(parts), KilnYard::new, yard -> told(yard, parts));
            }
        }
        checks.same("glaze of 60 each", new KilnYard().glaze(60, 60, 60, 60, 60), 0);
    }

    /** Promise 3: "with a SODA or LIME above 0", "IllegalArgumentException if .. soda and lime are both 0". */
    private static void promise3Flux() {
        KilnYard yard = new KilnYard();
        checks.same("glaze of soda 1 alone", yard.glaze(1, 0, 0, 0, 0), 0);
        checks.same("glaze of lime 1 alone", yard.glaze(0, 1, 0, 0, 0), 1);
        twins.badArgument("glaze of nothing", KilnYard::new, it -> it.glaze(0, 0, 0, 0, 0));
        twins.badArgument("glaze without soda and lime", KilnYard::new, it -> it.glaze(0, 0, 60, 60, 60));
        twins.badArgument("glaze of soda 1 and lime -1", KilnYard::new, it -> it.glaze(1, -1, 0, 0, 0));
    }

    /** Promise 3: "If several exceptions apply, the one that is named first is thrown." */
    private static void promise3Order() {
        twins.badArgument("a fifth glaze of iron 61", () -> withGlazes(4), yard -> yard.glaze(1, 1, 1, 1, 61));
        twins.badArgument("a fifth glaze without flux", () -> withGlazes(4), yard -> yard.glaze(0, 0, 1, 1, 1));
    }

    private static double meltsOf(int soda, int lime, int alumina, int silica) {
        KilnYard yard = new KilnYard();
        yard.glaze(soda, lime, alumina, silica, 0);
        return yard.ofGlaze(0, 2);
    }

    /** Promise 3: "Its MELTS .. rounded to the nearest whole number (of two the even one)". */
    private static void promise3MeltsRounded() {
        // By 64 fluxes: 63, 64 and 65 are around 0.5; by 32: 160 is 2.5, and 224 is 3.5.
        checks.same("MELTS below 0.5", meltsOf(60, 4, 1, 60), 0.0);
        checks.same("MELTS of 0.5", meltsOf(60, 4, 2, 58), 0.0);
        checks.same("MELTS above 0.5", meltsOf(60, 4, 2, 59), 1.0);
        checks.same("MELTS below 1.5", meltsOf(60, 4, 50, 41), 1.0);
        checks.same("MELTS of 1.5", meltsOf(60, 4, 50, 42), 2.0);
        checks.same("MELTS below 2.5", meltsOf(32, 0, 40, 39), 2.0);
        checks.same("MELTS of 2.5", meltsOf(32, 0, 40, 40), 2.0);
        checks.same("MELTS above 2.5", meltsOf(32, 0, 40, 41), 3.0);
        checks.same("MELTS below 3.5", meltsOf(0, 32, 60, 43), 3.0);
        checks.same("MELTS of 3.5", meltsOf(0, 32, 60, 44), 4.0);
        checks.same("MELTS of 0.0", meltsOf(1, 0, 0, 0), 0.0);
    }

    /** Promise 3: "Its MELTS (a cone) is .. 12 at most." */
    private static void promise3MeltsAtMost12() {
        checks.same("MELTS below 11.5", meltsOf(8, 0, 60, 3), 11.0);
        checks.same("MELTS of 11.5", meltsOf(8, 0, 60, 4), 12.0);
        checks.same("MELTS of 12.0", meltsOf(8, 0, 60, 12), 12.0);
        checks.same("MELTS of 12.5", meltsOf(8, 0, 60, 20), 12.0);
        checks.same("MELTS above 12.5", meltsOf(8, 0, 60, 21), 12.0);
        checks.same("MELTS of 120.0", meltsOf(1, 0, 60, 60), 12.0);
    }

    private static double growthOf(int soda, int lime, int alumina, int silica, int iron) {
        KilnYard yard = new KilnYard();
        yard.glaze(soda, lime, alumina, silica, iron);
        return yard.ofGlaze(0, 0);
    }

    /** Promise 3: "Its GROWTH .. divided by the sum of SODA, LIME, ALUMINA and SILICA.", without the IRON. */
    private static void promise3Growth() {
        checks.same("GROWTH of soda 1 alone", growthOf(1, 0, 0, 0, 0), 8.0);
        checks.same("GROWTH with iron 60", growthOf(1, 0, 0, 0, 60), 8.0);
        checks.same("GROWTH of little lime in silica", growthOf(0, 1, 0, 60, 0), 64.0 / 61.0);
        checks.same("GROWTH of 60 each", growthOf(60, 60, 60, 60, 60), 3.75);
    }

    // ---- pot

    private static KilnYard withPots(int count) {
        KilnYard yard = Scenes.furnished();
        for (int pot = 0; pot < count; pot++) {
            yard.pot(0, 1, 1, 1);
        }
        return yard;
    }

    /** Promise 4: "IndexOutOfBoundsException if there is no such CLAY". */
    private static void promise4Clay() {
        for (int clays = 0; clays <= 3; clays++) {
            int there = clays;
            for (int clay : Twins.outside(0, clays - 1)) {
                twins.outOfBounds("pot of clay " + clay + " of " + clays, () -> withClays(there),
                        yard -> yard.pot(clay, 1, 1, 1));
            }
        }
        KilnYard yard = withClays(3);
        checks.same("pot of the first clay", yard.pot(0, 1, 1, 1), 0);
        checks.same("pot of the last clay", yard.pot(2, 1, 1, 1), 1);
    }

    /** Promise 4: "IllegalArgumentException if width is not 1 to 5". */
    private static void promise4Width() {
        KilnYard yard = Scenes.furnished();
        checks.same("pot of width 1", yard.pot(0, 1, 1, 1), 0);
        checks.same("pot of width 5", yard.pot(0, 5, 1, 1), 1);
        checks.same("CELLS free beside width 1", yard.set(0, 0, 0), 9);
        checks.same("CELLS free beside width 5", yard.set(1, 1, 0), 5);
        for (int width : Twins.outside(1, 5)) {
            twins.badArgument("pot of width " + width, Scenes::furnished, it -> it.pot(0, width, 1, 1));
        }
    }

    /** Promise 4: "IllegalArgumentException if .. height not 1 to 3". */
    private static void promise4Height() {
        KilnYard yard = Scenes.furnished();
        checks.same("pot of height 1", yard.pot(0, 1, 1, 1), 0);
        checks.same("pot of height 3", yard.pot(0, 1, 3, 1), 1);
        for (int height : Twins.outside(1, 3)) {
            twins.badArgument("pot of height " + height, Scenes::furnished, it -> it.pot(0, 1, height, 1));
        }
    }

    /** Promise 4: "IllegalArgumentException if .. wall not 1, 2 or 4". */
    private static void promise4Wall() {
        KilnYard yard = Scenes.furnished();
        checks.same("pot of wall 1", yard.pot(0, 1, 1, 1), 0);
        checks.same("pot of wall 2", yard.pot(0, 1, 1, 2), 1);
        checks.same("pot of wall 4", yard.pot(0, 1, 1, 4), 2);
        for (int wall : new int[] {0, 3, 5, 8, -1, -2, -4, Integer.MIN_VALUE, Integer.MAX_VALUE}) {
            twins.badArgument("pot of wall " + wall, Scenes::furnished, it -> it.pot(0, 1, 1, wall));
        }
    }

    /** Promise 4: "POTS: at most 14, numbered from 0", "IllegalStateException if there are 14". */
    private static void promise4AtMost14() {
        KilnYard yard = Scenes.furnished();
        for (int pot = 0; pot < 14; pot++) {
            checks.same("pot", yard.pot(0, 1, 1, 1), pot);
        }
        twins.badState("a fifteenth pot", () -> withPots(14), it -> it.pot(0, 1, 1, 1));
    }

    /** Promise 4: "If several exceptions apply, the one that is named first is thrown." */
    private static void promise4Order() {
        twins.outOfBounds("a fifteenth pot of no clay, and width 0", () -> withPots(14), yard -> yard.pot(2, 0, 1, 1));
        twins.outOfBounds("a pot of no clay, and wall 3", Scenes::furnished, yard -> yard.pot(2, 1, 1, 3));
        twins.outOfBounds("a fifteenth pot of no clay", () -> withPots(14), yard -> yard.pot(-1, 1, 1, 1));
        twins.badArgument("a fifteenth pot of width 6", () -> withPots(14), yard -> yard.pot(0, 6, 1, 1));
        twins.badArgument("a fifteenth pot of height 4", () -> withPots(14), yard -> yard.pot(0, 1, 4, 1));
        twins.badArgument("a fifteenth pot of wall 3", () -> withPots(14), yard -> yard.pot(0, 1, 1, 3));
    }

    /**
     * Promise 4: "a GLAZE (NONE at first), a STATE (0 WET at first ..), WATER (a float; 8f at first), COVERED (not
     * at first), a SMOKE (0 at first ..), and MARKS (a set ..)", and "NONE is -1."
     */
    private static void promise4AtFirst() {
        KilnYard yard = withPots(14);
        for (int pot : new int[] {0, 13}) {
            checks.same("STATE at first", yard.ofPot(pot, 0), 0);
            checks.same("GLAZE at first", yard.ofPot(pot, 1), -1);
            checks.same("MARKS at first", yard.ofPot(pot, 2), 0);
            checks.same("SHELF at first", yard.ofPot(pot, 3), -1);
            checks.same("CELL at first", yard.ofPot(pot, 4), -1);
            checks.same("SMOKE at first", yard.ofPot(pot, 5), 0);
            checks.same("COLOUR at first", yard.ofPot(pot, 6), -1);
            checks.same("COVERED at first", yard.ofPot(pot, 7), 0);
            checks.same("WATER at first", yard.water(pot), 8.0);
        }
    }

    // ---- cover

    /** Of pots of which there are none, one and as many as can be, the numbers of no such pot are refused. */
    private static void noSuchPot(String what, PotCall call) {
        for (int pots : new int[] {0, 1, 14}) {
            for (int pot : Twins.outside(0, pots - 1)) {
                twins.outOfBounds(what + " of pot " + pot + " of " + pots, () -> withPots(pots),
                        yard -> call.on(yard, pot));
            }
        }
    }

    private interface PotCall {
        void on(KilnYard yard, int pot);
    }

    /** Promise 5: "IndexOutOfBoundsException if there is no such POT". */
    private static void promise5Pot() {
        noSuchPot("cover", (yard, pot) -> yard.cover(pot, true));
        KilnYard yard = withPots(14);
        checks.same("cover the first pot", yard.cover(0, true), false);
        checks.same("cover the last pot", yard.cover(13, true), false);
        checks.same("the first is COVERED", yard.ofPot(0, 7), 1);
        checks.same("the last is COVERED", yard.ofPot(13, 7), 1);
        checks.same("the one between is not", yard.ofPot(12, 7), 0);
    }

    /** Promise 5: "Returns whether it was.", also of what it is already, and in every STATE. */
    private static void promise5Was() {
        KilnYard yard = Scenes.withAllStates();
        for (int pot = 0; pot < 7; pot++) {
            checks.same("uncover what is not", yard.cover(pot, false), false);
            checks.same("cover", yard.cover(pot, true), false);
            checks.same("cover what is", yard.cover(pot, true), true);
            checks.same("it is COVERED", yard.ofPot(pot, 7), 1);
            checks.same("its STATE", yard.ofPot(pot, 0), pot);
            checks.same("uncover", yard.cover(pot, false), true);
            checks.same("it is not COVERED", yard.ofPot(pot, 7), 0);
        }
    }

    // ---- dry

    private static KilnYard onDay(int day) {
        KilnYard yard = withPots(3);
        yard.cover(2, true);
        for (int left = day; left > 0; left -= 20) {
            yard.dry(Math.min(left, 20), 1);
        }
        return yard;
    }

    /** Promise 6: "IllegalArgumentException if days is not 1 to 20". */
    private static void promise6Days() {
        KilnYard yard = withPots(1);
        yard.dry(1, 1);
        checks.same("DAY behind 1", yard.many(0), 1);
        yard.dry(20, 1);
        checks.same("DAY behind 20 more", yard.many(0), 21);
        for (int days : Twins.outside(1, 20)) {
            twins.badArgument("dry " + days + " days", () -> withPots(2), it -> it.dry(days, 1));
        }
    }

    /** Promise 6: "with AIR (1 to 8)", "IllegalArgumentException if .. air not 1 to 8". */
    private static void promise6Air() {
        KilnYard yard = withPots(1);
        yard.dry(1, 1);
        checks.same("WATER behind a DAY of AIR 1", yard.water(0), 7.5);
        yard.dry(1, 8);
        checks.same("WATER behind a DAY of AIR 8", yard.water(0), 3.5);
        for (int air : Twins.outside(1, 8)) {
            twins.badArgument("dry in air " + air, () -> withPots(2), it -> it.dry(1, air));
        }
    }

    /** Promise 6: "DAY is 0 at first, 200 at most", "IllegalStateException if DAY would be above 200". */
    private static void promise6AtMost200() {
        KilnYard by20 = onDay(180);
        by20.dry(20, 1);
        checks.same("DAY by 20", by20.many(0), 200);
        KilnYard by1 = onDay(199);
        by1.dry(1, 1);
        checks.same("DAY by 1", by1.many(0), 200);
        twins.badState("dry from DAY 200 by 1", () -> onDay(200), yard -> yard.dry(1, 1));
        twins.badState("dry from DAY 199 by 2", () -> onDay(199), yard -> yard.dry(2, 1));
        twins.badState("dry from DAY 181 by 20", () -> onDay(181), yard -> yard.dry(20, 8));
    }

    /** Promise 6: "If several exceptions apply, the one that is named first is thrown." */
    private static void promise6Order() {
        twins.badArgument("dry from DAY 200 by 0", () -> onDay(200), yard -> yard.dry(0, 1));
        twins.badArgument("dry from DAY 200 by 21", () -> onDay(200), yard -> yard.dry(21, 1));
        twins.badArgument("dry from DAY 200 in air 9", () -> onDay(200), yard -> yard.dry(1, 9));
        twins.badArgument("dry from DAY 200 by the most", () -> onDay(200), yard -> yard.dry(Integer.MAX_VALUE, 1));
    }

    /** Behind drying that many days in that air. */
    private static KilnYard dried(int wall, boolean isCovered, int days, int air) {
        KilnYard yard = Scenes.furnished();
        yard.pot(0, 1, 1, wall);
        yard.cover(0, isCovered);
        yard.dry(days, air);
        return yard;
    }

    /** Promise 6: "loses (float) AIR / 2f, divided by WALL, a half of that if it is COVERED". */
    private static void promise6Loses() {
        checks.same("the most that is lost", dried(1, false, 1, 8).water(0), 4.0);
        checks.same("the most, COVERED", dried(1, true, 1, 8).water(0), 6.0);
        checks.same("the least that is lost", dried(4, true, 1, 1).water(0), 7.9375);
        checks.same("the least, not COVERED", dried(4, false, 1, 1).water(0), 7.875);
        checks.same("a wall of 2", dried(2, false, 1, 1).water(0), 7.75);
        KilnYard uncovered = dried(1, true, 1, 1);
        uncovered.cover(0, false);
        uncovered.dry(1, 1);
        checks.same("COVERED on the first DAY alone", uncovered.water(0), 7.25);
    }

    /** Promise 6: "each WET POT that is not on a shelf loses". */
    private static void promise6NotOnShelf() {
        for (int shelf = 0; shelf < 3; shelf++) {
            KilnYard yard = withPots(2);
            yard.set(0, shelf, 0);
            checks.same("dry beside a shelf", yard.dry(2, 8), 1);
            checks.same("WATER on a shelf", yard.water(0), 8.0);
            checks.same("MARKS on a shelf", yard.ofPot(0, 2), 0);
            yard.take(0);
            yard.dry(1, 8);
            checks.same("WATER off it", yard.water(0), 4.0);
        }
        KilnYard states = Scenes.withAllStates();
        states.dry(1, 8);
        checks.same("WATER of a WET one", states.water(0), 4.0);
        checks.same("WATER of a BROKEN one", states.water(5), 8.0);
        checks.same("STATE of a BROKEN one", states.ofPot(5, 0), 5);
    }

    /** Promise 6: "no more than its WATER". */
    private static void promise6NoMoreThanWater() {
        checks.same("just its WATER", dried(1, false, 2, 8).water(0), 0.0);
        checks.same("2.5 a DAY, of 8", dried(1, false, 3, 5).water(0), 0.5);
        checks.same("2.5 of 0.5", dried(1, false, 4, 5).water(0), 0.0);
        checks.same("3.5 of 1.0", dried(1, false, 3, 7).water(0), 0.0);
        checks.same("20 DAYS", dried(1, false, 20, 8).water(0), 0.0);
    }

    /** Promise 6: "If it really loses more than 1.5f on a DAY, it is CRACKED (that alone does not break it)." */
    private static void promise6Cracked() {
        checks.same("lost 1.5", dried(1, false, 1, 3).ofPot(0, 2), 0);
        checks.same("lost 2.0", dried(1, false, 1, 4).ofPot(0, 2), 2);
        checks.same("lost 1.5 through a wall of 2", dried(2, false, 1, 6).ofPot(0, 2), 0);
        checks.same("lost 1.75 through a wall of 2", dried(2, false, 1, 7).ofPot(0, 2), 2);
        checks.same("lost 1.5, COVERED", dried(1, true, 1, 6).ofPot(0, 2), 0);
        checks.same("lost 1.75, COVERED", dried(1, true, 1, 7).ofPot(0, 2), 2);
        checks.same("lost the most through a wall of 4", dried(4, false, 1, 8).ofPot(0, 2), 0);
        checks.same("CRACKED, and WET", dried(1, false, 1, 8).ofPot(0, 0), 0);
        checks.same("CRACKED, and DRY", dried(1, false, 2, 8).ofPot(0, 0), 1);
        checks.same("CRACKED twice", dried(1, false, 2, 8).ofPot(0, 2), 2);
    }

    /** Promise 6: "If it really loses more than 1.5f": of 1.5 that are left, no more is lost in any AIR. */
    private static void promise6ReallyLoses() {
        KilnYard just = dried(1, true, 20, 1);
        just.dry(6, 1);
        checks.same("WATER left", just.water(0), 1.5);
        just.cover(0, false);
        just.dry(1, 8);
        checks.same("really lost 1.5", just.ofPot(0, 2), 0);
        checks.same("WATER then", just.water(0), 0.0);
        KilnYard above = dried(2, true, 20, 1);
        above.dry(20, 1);
        above.dry(11, 1);
        checks.same("WATER left", above.water(0), 1.625);
        above.cover(0, false);
        above.dry(1, 8);
        checks.same("really lost 1.625", above.ofPot(0, 2), 2);
        checks.same("WATER then", above.water(0), 0.0);
    }

    /** Promise 6: "With WATER of 0.25f or less it is DRY." */
    private static void promise6Dry() {
        KilnYard above = dried(4, false, 7, 8);
        above.cover(0, true);
        above.dry(11, 1);
        checks.same("WATER of 0.3125", above.water(0), 0.3125);
        checks.same("WET with it", above.ofPot(0, 0), 0);
        checks.same("DRY a DAY on", above.dry(1, 1), 1);
        checks.same("WATER of 0.25", above.water(0), 0.25);
        checks.same("DRY with it", above.ofPot(0, 0), 1);
        above.dry(20, 8);
        checks.same("a DRY one loses no more", above.water(0), 0.25);
        KilnYard none = dried(1, false, 2, 8);
        checks.same("DRY with WATER of 0.0", none.ofPot(0, 0), 1);
    }

    /** Promise 6: "Returns how many POTS are DRY then.": none, all 14, also those on a shelf; no others. */
    private static void promise6HowMany() {
        checks.same("without pots", new KilnYard().dry(20, 8), 0);
        KilnYard yard = withPots(14);
        checks.same("not yet", yard.dry(1, 8), 0);
        checks.same("all", yard.dry(1, 8), 14);
        yard.set(0, 0, 0);
        checks.same("also on a shelf", yard.dry(1, 8), 14);
        checks.same("of seven states one", Scenes.withAllStates().dry(1, 1), 1);
    }

    // ---- dip

    /** Promise 7: "IndexOutOfBoundsException if there is no such POT". */
    private static void promise7Pot() {
        noSuchPot("dip", (yard, pot) -> yard.dip(pot, 0));
    }

    /** Promise 7: "IndexOutOfBoundsException if there is no such .. GLAZE". */
    private static void promise7Glaze() {
        for (int glaze : Twins.outside(0, 1)) {
            twins.outOfBounds("dip into glaze " + glaze, () -> Scenes.withBisquePots(0, 1), yard -> yard.dip(0, glaze));
        }
        for (int glaze = 0; glaze < 2; glaze++) {
            KilnYard yard = Scenes.withBisquePots(0, 1);
            yard.dip(0, glaze);
            checks.same("GLAZE", yard.ofPot(0, 1), glaze);
            checks.same("STATE", yard.ofPot(0, 0), 3);
        }
        KilnYard full = Scenes.withBisquePots(0, 1);
        full.glaze(1, 0, 0, 0, 0);
        full.glaze(1, 0, 0, 0, 0);
        full.dip(0, 3);
        checks.same("the last GLAZE", full.ofPot(0, 1), 3);
    }

    /** Promise 7: "To GLAZE a BISQUE POT: it is GLAZED", "IllegalStateException if it is not BISQUE". */
    private static void promise7NotBisque() {
        for (int state : new int[] {0, 1, 3, 4, 5, 6}) {
            checks.same("STATE", Scenes.withAllStates().ofPot(state, 0), state);
            twins.badState("dip a pot of state " + state, Scenes::withAllStates, yard -> yard.dip(state, 1));
        }
        KilnYard yard = Scenes.withAllStates();
        checks.same("a BISQUE one", yard.ofPot(2, 0), 2);
        yard.dip(2, 1);
        checks.same("it is GLAZED", yard.ofPot(2, 0), 3);
    }

    /** Promise 7: "If several exceptions apply, the one that is named first is thrown." */
    private static void promise7Order() {
        twins.outOfBounds("dip a wet pot into glaze 2", Scenes::withAllStates, yard -> yard.dip(0, 2));
        twins.outOfBounds("dip a sold pot into glaze -1", Scenes::withAllStates, yard -> yard.dip(6, -1));
    }

    /** Promise 7: "Returns the MELTS of that.": the least and the greatest. */
    private static void promise7Melts() {
        KilnYard yard = Scenes.withBisquePots(0, 2);
        int low = yard.glaze(60, 0, 0, 0, 0);
        int high = yard.glaze(1, 0, 60, 60, 0);
        checks.same("MELTS of 0", yard.dip(0, low), 0);
        checks.same("MELTS of 12", yard.dip(1, high), 12);
    }

    // ---- set

    /** Promise 8: "IndexOutOfBoundsException if there is no such POT". */
    private static void promise8Pot() {
        noSuchPot("set", (yard, pot) -> yard.set(pot, 0, 0));
        KilnYard yard = withPots(14);
        checks.same("set the first pot", yard.set(0, 0, 0), 9);
        checks.same("set the last pot", yard.set(13, 0, 1), 8);
        checks.same("SHELF of the last", yard.ofPot(13, 3), 0);
    }

    /** Promise 8: "SHELVES: 0 to 2", "IndexOutOfBoundsException if .. shelf is not 0 to 2". */
    private static void promise8Shelf() {
        for (int shelf : Twins.outside(0, 2)) {
            twins.outOfBounds("set on shelf " + shelf, () -> withPots(1), yard -> yard.set(0, shelf, 0));
        }
        for (int shelf = 0; shelf < 3; shelf++) {
            KilnYard yard = withPots(1);
            checks.same("set on shelf " + shelf, yard.set(0, shelf, 0), 9);
            checks.same("its SHELF", yard.ofPot(0, 3), shelf);
        }
    }

    /** Promise 8: "each of 10 CELLS", "IndexOutOfBoundsException if .. cell not 0 to 9". */
    private static void promise8Cell() {
        for (int cell : Twins.outside(0, 9)) {
            twins.outOfBounds("set on cell " + cell, () -> withPots(1), yard -> yard.set(0, 0, cell));
        }
        for (int cell : new int[] {0, 9}) {
            KilnYard yard = withPots(1);
            checks.same("set on cell " + cell, yard.set(0, 0, cell), 9);
            checks.same("its CELL", yard.ofPot(0, 4), cell);
        }
    }

    /** A dry pot 0, on shelf 1 or on none; a wet pot 1; not lit, and cooled so from the target. */
    private static KilnYard cooled(boolean isOnShelf, int target, int shut, int open) {
        KilnYard yard = Scenes.withPotOnShelf(1, 1);
        if (!isOnShelf) {
            yard.take(0);
        }
        yard.pot(0, 1, 1, 1);
        Scenes.coolFrom(yard, target, shut, open);
        return yard;
    }

    /** The same, lit at 20.0 for a program that goes out behind its first step. */
    private static KilnYard litCold(boolean isOnShelf) {
        KilnYard yard = Scenes.withPotOnShelf(1, 1);
        if (!isOnShelf) {
            yard.take(0);
        }
        yard.pot(0, 1, 1, 1);
        yard.ramp(200, 100, 0);
        yard.light();
        return yard;
    }

    /** Promise 8: "only while the kiln is not LIT", "IllegalStateException if the kiln is LIT". */
    private static void promise8Lit() {
        twins.badState("set as it is LIT at 20.0", () -> litCold(false), yard -> yard.set(0, 1, 0));
        KilnYard unlit = Scenes.withPotOnShelf(1, 1);
        unlit.take(0);
        checks.same("set as it is not LIT", unlit.set(0, 1, 0), 9);
        KilnYard out = litCold(false);
        out.burn(1);
        checks.same("LIT at TARGET", out.many(2), 1);
        out.burn(1);
        checks.same("not LIT a STEP on", out.many(2), 0);
        checks.same("set as it has gone out", out.set(0, 1, 0), 9);
    }

    /** Promise 8: "only while .. colder than 100.0", "IllegalStateException if .. not colder than 100.0". */
    private static void promise8Colder() {
        KilnYard below = cooled(false, 733, 6, 2);
        checks.same("HEAT", below.kiln(0), 99.99776554107666);
        checks.same("set just below 100.0", below.set(0, 1, 0), 9);
        checks.same("HEAT", cooled(false, 180, 0, 1).kiln(0), 100.0);
        twins.badState("set at 100.0", () -> cooled(false, 180, 0, 1), yard -> yard.set(0, 1, 0));
        checks.same("HEAT", cooled(false, 229, 2, 1).kiln(0), 100.0078125);
        twins.badState("set just above 100.0", () -> cooled(false, 229, 2, 1), yard -> yard.set(0, 1, 0));
    }

    /** Promise 8: "A POT that is DRY, GLAZED or WET can be SET", "the POT is not WET, DRY or GLAZED". */
    private static void promise8State() {
        for (int state : new int[] {2, 4, 5, 6}) {
            twins.badState("set a pot of state " + state, Scenes::withAllStates, yard -> yard.set(state, 1, 0));
        }
        KilnYard yard = Scenes.withAllStates();
        int free = 10;
        for (int state : new int[] {0, 1, 3}) {
            free--;
            checks.same("set a pot of state " + state, yard.set(state, 1, state), free);
        }
    }

    private static KilnYard withSetPot(int shelf) {
        KilnYard yard = withPots(2);
        yard.set(0, shelf, 0);
        return yard;
    }

    /** Promise 8: "IllegalStateException if .. the POT .. is on a shelf": on this one and on another. */
    private static void promise8OnShelf() {
        for (int shelf = 0; shelf < 3; shelf++) {
            int at = shelf;
            twins.badState("set where it is", () -> withSetPot(at), yard -> yard.set(0, at, 0));
            twins.badState("set beside where it is", () -> withSetPot(at), yard -> yard.set(0, at, 1));
            twins.badState("set on another", () -> withSetPot(at), yard -> yard.set(0, (at + 1) % 3, 0));
        }
        KilnYard taken = withSetPot(0);
        taken.take(0);
        checks.same("set what was taken", taken.set(0, 0, 0), 9);
    }

    private static KilnYard withHigh(int height) {
        KilnYard yard = Scenes.furnished();
        yard.pot(0, 1, height, 1);
        return yard;
    }

    /** Promise 8: "3 high, but the shelf 2, that is 2 high", "if .. the POT .. is higher than this one". */
    private static void promise8Higher() {
        checks.same("3 high on shelf 0", withHigh(3).set(0, 0, 0), 9);
        checks.same("3 high on shelf 1", withHigh(3).set(0, 1, 0), 9);
        checks.same("2 high on shelf 2", withHigh(2).set(0, 2, 0), 9);
        twins.badState("3 high on shelf 2", () -> withHigh(3), yard -> yard.set(0, 2, 0));
    }

    private static KilnYard withWide(int width) {
        KilnYard yard = Scenes.furnished();
        yard.pot(0, width, 1, 1);
        return yard;
    }

    /** Promise 8: "CELLS from one on, WIDTH of them", "IllegalStateException if .. its CELLS are not there". */
    private static void promise8CellsThere() {
        for (int width = 1; width <= 5; width++) {
            int of = width;
            for (int shelf = 0; shelf < 3; shelf++) {
                int at = shelf;
                KilnYard yard = withWide(width);
                checks.same("up to the last cell", yard.set(0, shelf, 10 - width), 10 - width);
                for (int cell = 11 - width; cell < 10; cell++) {
                    int from = cell;
                    twins.badState("beyond the last cell", () -> withWide(of), it -> it.set(0, at, from));
                }
            }
        }
    }

    /** A pot of 3 on the cells 3 to 5 of shelf 1, and one of 2 on none. */
    private static KilnYard withMiddleTaken() {
        KilnYard yard = Scenes.furnished();
        yard.pot(0, 3, 1, 1);
        yard.pot(0, 2, 1, 1);
        yard.set(0, 1, 3);
        return yard;
    }

    /** Promise 8: "that are free", "IllegalStateException if .. its CELLS are .. not free". */
    private static void promise8CellsFree() {
        for (int cell : new int[] {2, 3, 4, 5}) {
            twins.badState("set on cell " + cell, ToldEdgesTest::withMiddleTaken, yard -> yard.set(1, 1, cell));
        }
        for (int cell : new int[] {1, 6}) {
            checks.same("set on cell " + cell, withMiddleTaken().set(1, 1, cell), 5);
        }
        checks.same("set on the same cell of another shelf", withMiddleTaken().set(1, 0, 3), 8);
        KilnYard taken = withMiddleTaken();
        taken.take(0);
        checks.same("set where one was taken", taken.set(1, 1, 4), 8);
    }

    /** Promise 8: "Returns how many CELLS of that shelf are free then.": down to 0, and then none fits. */
    private static void promise8FreeThen() {
        KilnYard yard = withPots(11);
        for (int pot = 0; pot < 10; pot++) {
            checks.same("CELLS free then", yard.set(pot, 2, pot), 9 - pot);
        }
        for (int cell : new int[] {0, 9}) {
            twins.badState("set on a full shelf", ToldEdgesTest::withFullShelf, it -> it.set(10, 2, cell));
        }
    }

    private static KilnYard withFullShelf() {
        KilnYard yard = withPots(11);
        for (int pot = 0; pot < 10; pot++) {
            yard.set(pot, 2, pot);
        }
        return yard;
    }

    /** Promise 8: "If several exceptions apply, the one that is named first is thrown." */
    private static void promise8Order() {
        twins.outOfBounds("set no pot as it is LIT", () -> litCold(true), yard -> yard.set(2, 1, 0));
        twins.outOfBounds("set on no shelf as it is LIT", () -> litCold(true), yard -> yard.set(0, 3, 0));
        twins.outOfBounds("set on no cell as it is LIT", () -> litCold(true), yard -> yard.set(0, 1, 10));
        twins.outOfBounds("set on no shelf a BROKEN pot", Scenes::withAllStates, yard -> yard.set(5, -1, 0));
        twins.outOfBounds("set on no cell a BISQUE pot", Scenes::withAllStates, yard -> yard.set(2, 0, -1));
    }

    // ---- take

    /** Promise 9: "IndexOutOfBoundsException if there is no such POT". */
    private static void promise9Pot() {
        noSuchPot("take", KilnYard::take);
        KilnYard yard = withPots(14);
        yard.set(0, 0, 9);
        yard.set(13, 2, 0);
        checks.same("take the first pot", yard.take(0), 0);
        checks.same("take the last pot", yard.take(13), 2);
    }

    /** Promise 9: "It can be taken away by hand likewise.", "IllegalStateException if the kiln is LIT". */
    private static void promise9Lit() {
        twins.badState("take as it is LIT at 20.0", () -> litCold(true), yard -> yard.take(0));
        checks.same("take as it is not LIT", Scenes.withPotOnShelf(1, 1).take(0), 1);
        KilnYard out = litCold(true);
        out.burn(2);
        checks.same("take as it has gone out", out.take(0), 1);
    }

    /** Promise 9: "IllegalStateException if the kiln is .. not colder than 100.0". */
    private static void promise9Colder() {
        KilnYard below = cooled(true, 733, 6, 2);
        checks.same("HEAT", below.kiln(0), 99.99776554107666);
        checks.same("take just below 100.0", below.take(0), 1);
        twins.badState("take at 100.0", () -> cooled(true, 180, 0, 1), yard -> yard.take(0));
        twins.badState("take just above 100.0", () -> cooled(true, 229, 2, 1), yard -> yard.take(0));
    }

    /** Promise 9: "IllegalStateException if .. it is on no shelf": never set, taken, or unloaded. */
    private static void promise9NoShelf() {
        twins.badState("take what was never set", () -> withPots(1), yard -> yard.take(0));
        twins.badState("take what was taken", () -> {
            KilnYard yard = withSetPot(0);
            yard.take(0);
            return yard;
        }, yard -> yard.take(0));
        twins.badState("take what was unloaded", () -> {
            KilnYard yard = withSetPot(0);
            yard.unload();
            return yard;
        }, yard -> yard.take(0));
        for (int shelf = 0; shelf < 3; shelf++) {
            KilnYard yard = withSetPot(shelf);
            checks.same("take from shelf " + shelf, yard.take(0), shelf);
            checks.same("SHELF then", yard.ofPot(0, 3), -1);
            checks.same("CELL then", yard.ofPot(0, 4), -1);
            checks.same("CELLS free then", yard.ofShelf(shelf, 1), 10);
        }
    }

    /** Promise 9: "Takes a POT away (also a BROKEN one)." */
    private static void promise9Broken() {
        KilnYard yard = withSetPot(1);
        Scenes.coolFrom(yard, 180, 4, 0);
        checks.same("STATE", yard.ofPot(0, 0), 5);
        checks.same("HEAT", yard.kiln(0) < 100.0, false);
        yard.burn(4);
        checks.same("take a BROKEN one", yard.take(0), 1);
        checks.same("STATE then", yard.ofPot(0, 0), 5);
        checks.same("MARKS then", yard.ofPot(0, 2), 1);
    }

    /** Promise 9: "If several exceptions apply, the one that is named first is thrown." */
    private static void promise9Order() {
        twins.outOfBounds("take no pot as it is LIT", () -> litCold(true), yard -> yard.take(2));
        twins.outOfBounds("take no pot at 100.0", () -> cooled(true, 180, 0, 1), yard -> yard.take(-1));
        twins.badState("take from no shelf as it is LIT", () -> litCold(true), yard -> yard.take(1));
    }
}
