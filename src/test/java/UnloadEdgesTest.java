/**
 * Promise 17, sentence by sentence: the boundary cases of unloading.
 * The remark on each test names its promise and quotes the sentence that it holds.
 */
final class UnloadEdgesTest {
    private static final Checks checks = new Checks();
    private static final Twins twins = new Twins(checks);

    public static void main(String[] args) {
        promise17Lit();
        promise17Colder();
        promise17DryFromCone2();
        promise17GlazedFromCone1();
        promise17Dull();
        promise17Run();
        promise17Crazed();
        promise17Shivered();
        promise17MarksAreASet();
        promise17SlumpedDry();
        promise17SlumpedGlazed();
        promise17SlumpedInstead();
        promise17SlumpedBesideCracked();
        promise17TopOf1();
        promise17TopOf12();
        promise17OthersStay();
        promise17HowMany();
        promise17AllOff();
        promise17Works();
        promise17Power();
        checks.end();
    }

    /** A dry pot on shelf 1; lit at 20.0 for a program that comes to 100.0 in its first step, and burnt so. */
    private static KilnYard litWithPot(int steps) {
        KilnYard yard = Scenes.withPotOnShelf(1, 1);
        yard.ramp(80, 100, 0);
        yard.light();
        for (int step = 0; step < steps; step++) {
            yard.burn(1);
        }
        return yard;
    }

    /** Promise 17: "only if it is not LIT", "IllegalStateException if it is LIT". */
    private static void promise17Lit() {
        twins.badState("unload just LIT", () -> litWithPot(0), KilnYard::unload);
        twins.badState("unload in the last STEP", () -> litWithPot(1), KilnYard::unload);
        KilnYard out = litWithPot(2);
        checks.same("HEAT", out.kiln(0), 90.0);
        checks.same("unload as it has gone out", out.unload(), 0);
        checks.same("SHELF then", out.ofPot(0, 3), -1);
    }

    private static KilnYard cooledWithPot(int target, int shut, int open) {
        KilnYard yard = Scenes.withPotOnShelf(1, 1);
        Scenes.coolFrom(yard, target, shut, open);
        return yard;
    }

    /** Promise 17: "and colder than 100.0", "IllegalStateException if .. not colder than 100.0". */
    private static void promise17Colder() {
        KilnYard below = cooledWithPot(733, 6, 2);
        checks.same("HEAT", below.kiln(0), 99.99776554107666);
        checks.same("unload just below 100.0", below.unload(), 0);
        checks.same("SHELF then", below.ofPot(0, 3), -1);
        checks.same("HEAT", cooledWithPot(180, 0, 1).kiln(0), 100.0);
        twins.badState("unload at 100.0", () -> cooledWithPot(180, 0, 1), KilnYard::unload);
        checks.same("HEAT", cooledWithPot(229, 2, 1).kiln(0), 100.0078125);
        twins.badState("unload just above 100.0", () -> cooledWithPot(229, 2, 1), KilnYard::unload);
    }

    /** A dry pot of that clay on shelf 1, behind so many 32nds of work and an unloading. */
    private static KilnYard dryFired(int clay, int thirtySeconds) {
        KilnYard yard = Scenes.withDryPots(clay, 1);
        yard.set(0, 1, 0);
        work(yard, thirtySeconds);
        yard.unload();
        return yard;
    }

    /** A glazed pot on shelf 1, behind so many 32nds of work and an unloading. */
    private static KilnYard glazedFired(int clay, int thirtySeconds) {
        KilnYard yard = Scenes.withGlazedPots(clay, 1, Scenes.PALE);
        work(yard, thirtySeconds);
        yard.unload();
        return yard;
    }

    private static void work(KilnYard yard, int thirtySeconds) {
        for (int left = thirtySeconds; left > 0; left -= 60 * 32) {
            Scenes.addWork(yard, Math.min(left, 60 * 32));
        }
        checks.same("WORK", yard.kiln(4), thirtySeconds / 32.0);
    }

    /** The 32nds of work of which the cone is the least. */
    private static int workOf(int cone) {
        int[] works = {0, 8, 16, 28, 44, 64, 88, 116, 148, 184, 224, 268, 316};
        return 32 * works[cone];
    }

    /** Promise 17: "a DRY one is BISQUE with a CONE of 2 or more (else it stays DRY)". */
    private static void promise17DryFromCone2() {
        checks.same("a DRY one with CONE 0", dryFired(0, 0).ofPot(0, 0), 1);
        checks.same("a DRY one just below CONE 2", dryFired(0, workOf(2) - 1).ofPot(0, 0), 1);
        checks.same("a DRY one with CONE 2", dryFired(0, workOf(2)).ofPot(0, 0), 2);
        checks.same("a DRY one with CONE 12", dryFired(0, workOf(12)).ofPot(0, 0), 2);
        checks.same("its MARKS", dryFired(0, workOf(12)).ofPot(0, 2), 0);
    }

    /** Promise 17: "A GLAZED one is DONE with a CONE of 1 or more (else it stays GLAZED)". */
    private static void promise17GlazedFromCone1() {
        KilnYard below = glazedFired(0, workOf(1) - 1);
        checks.same("a GLAZED one just below CONE 1", below.ofPot(0, 0), 3);
        checks.same("its MARKS", below.ofPot(0, 2), 0);
        checks.same("its GLAZE", below.ofPot(0, 1), Scenes.PALE);
        checks.same("a GLAZED one with CONE 1", glazedFired(0, workOf(1)).ofPot(0, 0), 4);
    }

    /** Promise 17: "DULL, if CONE is below MELTS", which are 2. */
    private static void promise17Dull() {
        checks.same("MARKS just below CONE 2", glazedFired(0, workOf(2) - 1).ofPot(0, 2), 8);
        checks.same("MARKS with CONE 2", glazedFired(0, workOf(2)).ofPot(0, 2), 0);
    }

    /** Promise 17: "RUN, if it is above MELTS by more than 2", MELTS being 2. */
    private static void promise17Run() {
        checks.same("MARKS with CONE 4", glazedFired(0, workOf(4)).ofPot(0, 2), 0);
        checks.same("MARKS just below CONE 5", glazedFired(0, workOf(5) - 1).ofPot(0, 2), 0);
        checks.same("MARKS with CONE 5", glazedFired(0, workOf(5)).ofPot(0, 2), 16);
        checks.same("MARKS with CONE 12", glazedFired(0, workOf(12)).ofPot(0, 2), 16);
    }

    /** The marks of a pot of that clay and glaze (soda, lime, alumina, silica), fired to cone 2 twice. */
    private static int marksOf(int quarters, int soda, int lime, int alumina, int silica) {
        KilnYard yard = new KilnYard();
        yard.clay(12, quarters);
        yard.glaze(soda, lime, alumina, silica, 0);
        yard.pot(0, 1, 1, 1);
        yard.dry(8, 2);
        yard.set(0, 1, 0);
        work(yard, workOf(2));
        yard.unload();
        yard.dip(0, 0);
        yard.set(0, 1, 0);
        work(yard, workOf(2));
        yard.unload();
        checks.same("STATE", yard.ofPot(0, 0), 4);
        return yard.ofPot(0, 2);
    }

    /** Promise 17: "CRAZED, if GROWTH of its GLAZE is above that of its CLAY by more than 2.0", CLAY 2.0. */
    private static void promise17Crazed() {
        checks.same("MARKS by 2.0 less 1 / 220", marksOf(8, 60, 60, 59, 41), 0);
        checks.same("MARKS by 2.0", marksOf(8, 0, 1, 0, 0), 0);
        checks.same("MARKS by 2.0 and 1 / 219", marksOf(8, 60, 60, 58, 41), 32);
        checks.same("MARKS by 6.0", marksOf(8, 1, 0, 0, 0), 32);
    }

    /** Promise 17: "SHIVERED, if it is below by more than 2.0", CLAY 6.0. */
    private static void promise17Shivered() {
        checks.same("MARKS by 2.0 less 1 / 219", marksOf(24, 60, 60, 58, 41), 0);
        checks.same("MARKS by 2.0", marksOf(24, 0, 1, 0, 0), 0);
        checks.same("MARKS by 2.0 and 1 / 220", marksOf(24, 60, 60, 59, 41), 64);
        checks.same("MARKS by 6.0", marksOf(40, 0, 1, 0, 0), 64);
    }

    /** Promise 17: "MARKS (a set, the sum of 2^k", CRACKED three times, RUN and CRAZED. */
    private static void promise17MarksAreASet() {
        KilnYard yard = new KilnYard();
        yard.clay(12, 8);
        yard.glaze(1, 0, 0, 0, 0);
        yard.pot(0, 1, 1, 1);
        yard.dry(2, 8);
        checks.same("CRACKED on two DAYS", yard.ofPot(0, 2), 2);
        yard.set(0, 1, 0);
        Scenes.coolFrom(yard, 574, 0, 5);
        checks.same("CRACKED in the kiln as well", yard.ofPot(0, 2), 2);
        work(yard, workOf(2));
        yard.unload();
        yard.dip(0, 0);
        yard.set(0, 1, 0);
        work(yard, workOf(3));
        yard.unload();
        checks.same("and RUN and CRAZED", yard.ofPot(0, 2), 2 + 16 + 32);
    }

    /** Promise 17: "with a CONE above TOP of the CLAY: SLUMPED and BROKEN instead", of a DRY one and a TOP of 3. */
    private static void promise17SlumpedDry() {
        checks.same("STATE just below CONE 4", dryFired(Scenes.WEAK, workOf(4) - 1).ofPot(0, 0), 2);
        KilnYard above = dryFired(Scenes.WEAK, workOf(4));
        checks.same("STATE with CONE 4", above.ofPot(0, 0), 5);
        checks.same("MARKS with CONE 4", above.ofPot(0, 2), 4);
    }

    /** Promise 17: "Of both, with a CONE above TOP of the CLAY: SLUMPED and BROKEN instead", of a GLAZED one. */
    private static void promise17SlumpedGlazed() {
        KilnYard at = glazedFired(Scenes.WEAK, workOf(4) - 1);
        checks.same("STATE just below CONE 4", at.ofPot(0, 0), 4);
        checks.same("MARKS just below CONE 4", at.ofPot(0, 2), 0);
        KilnYard above = glazedFired(Scenes.WEAK, workOf(4));
        checks.same("STATE with CONE 4", above.ofPot(0, 0), 5);
        checks.same("MARKS with CONE 4", above.ofPot(0, 2), 4);
    }

    /** Promise 17: "SLUMPED and BROKEN instead": not RUN as well. */
    private static void promise17SlumpedInstead() {
        KilnYard yard = glazedFired(Scenes.WEAK, workOf(12));
        checks.same("STATE with CONE 12", yard.ofPot(0, 0), 5);
        checks.same("MARKS with CONE 12", yard.ofPot(0, 2), 4);
        checks.same("COLOUR with CONE 12", yard.ofPot(0, 6), -1);
    }

    /** Promise 17: "MARKS (a set", "Of both .. SLUMPED": one that was CRACKED before stays so. */
    private static void promise17SlumpedBesideCracked() {
        for (int isGlazed = 0; isGlazed < 2; isGlazed++) {
            KilnYard yard = Scenes.furnished();
            yard.pot(Scenes.WEAK, 1, 1, 1);
            yard.dry(2, 8);
            if (isGlazed == 1) {
                yard.set(0, 1, 0);
                work(yard, workOf(2));
                yard.unload();
                yard.dip(0, Scenes.PALE);
            }
            checks.same("STATE, CRACKED", yard.ofPot(0, 0), isGlazed == 1 ? 3 : 1);
            checks.same("MARKS, CRACKED", yard.ofPot(0, 2), 2);
            yard.set(0, 1, 0);
            work(yard, workOf(4));
            checks.same("unload", yard.unload(), 1);
            checks.same("STATE, SLUMPED as well", yard.ofPot(0, 0), 5);
            checks.same("MARKS, SLUMPED as well", yard.ofPot(0, 2), 2 + 4);
        }
    }

    /** Promise 17: of a CLAY with the least TOP no POT comes to be BISQUE: CONE 1 is too little, CONE 2 too much. */
    private static void promise17TopOf1() {
        int[] works = {workOf(2) - 1, workOf(2)};
        int[] states = {1, 5};
        for (int i = 0; i < works.length; i++) {
            KilnYard yard = new KilnYard();
            yard.clay(1, 12);
            yard.pot(0, 1, 1, 1);
            yard.dry(8, 2);
            yard.set(0, 1, 0);
            work(yard, works[i]);
            checks.same("unload", yard.unload(), i);
            checks.same("STATE", yard.ofPot(0, 0), states[i]);
        }
    }

    /** Promise 17: with the greatest TOP no CONE is above it. */
    private static void promise17TopOf12() {
        KilnYard yard = glazedFired(Scenes.TOUGH, workOf(12) + 60 * 32);
        checks.same("STATE with the most WORK", yard.ofPot(0, 0), 4);
        checks.same("MARKS with the most WORK", yard.ofPot(0, 2), 16);
    }

    /** Promise 17: "a DRY one is BISQUE ..", "A GLAZED one is DONE ..": a WET and a BROKEN one stay as they are. */
    private static void promise17OthersStay() {
        KilnYard yard = Scenes.furnished();
        yard.pot(Scenes.WEAK, 1, 1, 1);
        yard.pot(Scenes.WEAK, 1, 1, 1);
        yard.set(0, 1, 0);
        work(yard, workOf(4));
        checks.same("STATE", yard.ofPot(0, 0), 5);
        yard.set(1, 1, 1);
        checks.same("unload", yard.unload(), 1);
        checks.same("STATE of the BROKEN one", yard.ofPot(0, 0), 5);
        checks.same("MARKS of the BROKEN one", yard.ofPot(0, 2), 1);
        checks.same("STATE of the WET one", yard.ofPot(1, 0), 0);
        checks.same("MARKS of the WET one", yard.ofPot(1, 2), 0);
        checks.same("SHELF of the WET one", yard.ofPot(1, 3), -1);
    }

    /** Promise 17: "Returns how many POTS are BROKEN of those that were on the shelves.": none, and all 14. */
    private static void promise17HowMany() {
        checks.same("unload nothing", new KilnYard().unload(), 0);
        KilnYard yard = Scenes.furnished();
        for (int pot = 0; pot < 14; pot++) {
            yard.pot(0, 1, 1, 1);
        }
        for (int pot = 0; pot < 14; pot++) {
            yard.set(pot, pot / 5, pot % 5);
        }
        Scenes.coolFrom(yard, 200, 30, 0);
        checks.same("unload 14 BROKEN ones", yard.unload(), 14);
        checks.same("unload again", yard.unload(), 0);
        checks.same("BROKEN ever", yard.many(8), 14);
    }

    /** Promise 17: "All POTS are off the shelves then". */
    private static void promise17AllOff() {
        KilnYard yard = Scenes.withAllStates();
        yard.set(0, 0, 9);
        yard.set(1, 1, 0);
        yard.set(3, 2, 5);
        checks.same("unload", yard.unload(), 0);
        for (int pot = 0; pot < 7; pot++) {
            checks.same("STATE as before", yard.ofPot(pot, 0), pot);
            checks.same("SHELF", yard.ofPot(pot, 3), -1);
            checks.same("CELL", yard.ofPot(pot, 4), -1);
        }
        for (int shelf = 0; shelf < 3; shelf++) {
            checks.same("CELLS free", yard.ofShelf(shelf, 1), 10);
            checks.same("POTS on it", yard.ofShelf(shelf, 2), 0);
        }
    }

    /** Promise 17: "WORKS are 0.0", and until then they are kept, through several lightings. */
    private static void promise17Works() {
        KilnYard yard = new KilnYard();
        work(yard, 31);
        Scenes.addWork(yard, 1);
        checks.same("WORK of two lightings", yard.kiln(4), 1.0);
        yard.unload();
        for (int shelf = 0; shelf < 3; shelf++) {
            checks.same("WORK then", yard.kiln(3 + shelf), 0.0);
            checks.same("CONE then", yard.ofShelf(shelf, 0), 0);
        }
    }

    /** Promise 17: "if some WORK was above 0.0, POWER is 63f / 64f times what it was". */
    private static void promise17Power() {
        KilnYard none = new KilnYard();
        Scenes.coolFrom(none, 692, 30, 0);
        checks.same("WORK of shelf 2 at 700", none.kiln(5), 0.0);
        none.unload();
        checks.same("POWER without WORK", none.kiln(1), 1.0);
        KilnYard least = new KilnYard();
        Scenes.coolFrom(least, 693, 30, 0);
        checks.same("WORK of shelf 1 at 693", least.kiln(4), 0.0);
        checks.same("WORK of shelf 2 at 701", least.kiln(5), 0.03125);
        least.unload();
        checks.same("POWER with the least WORK", least.kiln(1), 0.984375);
        least.unload();
        checks.same("POWER without WORK since", least.kiln(1), 0.984375);
        KilnYard little = new KilnYard();
        NearHeat.cool(little, NearHeat.ABOVE_63);
        NearHeat.rise(little, 17, 37);
        checks.between("WORK of shelf 2 just above 700", little.kiln(5), 0.0, 0.00001);
        NearHeat.fall(little, 200, 100);
        little.burn(60);
        little.unload();
        checks.same("POWER with less WORK than that", little.kiln(1), 0.984375);
        float due = 63f / 64f;
        for (int times = 2; times <= 8; times++) {
            Scenes.coolFrom(least, 693, 30, 0);
            least.unload();
            due = due * 63f / 64f;
            checks.same("POWER with WORK " + times + " times", least.kiln(1), due);
        }
    }
}
