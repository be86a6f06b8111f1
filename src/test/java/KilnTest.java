/** Promises 10 to 17: the kiln. */
final class KilnTest {
    private static final Checks checks = new Checks();

    public static void main(String[] args) {
        promise10Ramp();
        promise11Forget();
        promise12Light();
        promise13BurnUnlit();
        promise13BurnRises();
        promise13BurnFalls();
        promise13BurnHolds();
        promise13BurnStalls();
        promise13BurnCostsFuel();
        promise13BurnWorks();
        promise13BurnBursts();
        promise13BurnCracksRising();
        promise13BurnCracksFalling();
        promise13BurnSmokes();
        promise13BurnRefuses();
        promise14Damper();
        promise15Door();
        promise16Bell();
        promise17UnloadRefuses();
        promise17UnloadDry();
        promise17UnloadGlazed();
        promise17UnloadMarks();
        promise17UnloadSlumps();
        promise17UnloadShelves();
        promise17UnloadPower();
        checks.end();
    }

    private static void promise10Ramp() {
        KilnYard yard = new KilnYard();
        int[][] wrongs = {{9, 100, 0}, {201, 100, 0}, {10, 99, 0}, {10, 1401, 0}, {10, 100, -1}, {10, 100, 21}};
        for (int[] wrong : wrongs) {
            checks.badArgument("ramp " + wrong[0] + " " + wrong[1] + " " + wrong[2], yard,
                    () -> yard.ramp(wrong[0], wrong[1], wrong[2]));
        }
        checks.same("ramp of the least", yard.ramp(10, 100, 0), 0);
        checks.same("ramp of the most", yard.ramp(200, 1400, 20), 1);
        yard.light();
        checks.badState("ramp as it is lit", yard, () -> yard.ramp(10, 100, 0));
        checks.badArgument("ramp as it is lit, and wrong", yard, () -> yard.ramp(9, 100, 0));
        KilnYard full = new KilnYard();
        for (int i = 0; i < 5; i++) {
            checks.same("ramp", full.ramp(50, 500, 5), i);
        }
        checks.same("RAMPS", full.many(5), 5);
        checks.badState("sixth ramp", full, () -> full.ramp(50, 500, 5));
        checks.badArgument("sixth ramp, and wrong", full, () -> full.ramp(50, 500, 21));
    }

    private static void promise11Forget() {
        KilnYard yard = new KilnYard();
        checks.same("forget nothing", yard.forget(), 0);
        yard.ramp(20, 200, 0);
        yard.ramp(20, 300, 0);
        checks.same("forget two", yard.forget(), 2);
        checks.same("RAMPS", yard.many(5), 0);
        checks.badState("light without ramps", yard, () -> yard.light());
        checks.same("ramp after", yard.ramp(100, 100, 0), 0);
        yard.light();
        checks.badState("forget as it is lit", yard, () -> yard.forget());
        yard.burn(2);
        checks.same("the forgotten ramps are not followed", yard.many(2), 0);
        checks.same("forget one", yard.forget(), 1);
    }

    private static void promise12Light() {
        KilnYard yard = Scenes.furnished();
        checks.badState("light without ramps", yard, () -> yard.light());
        for (int pot = 0; pot < 4; pot++) {
            yard.pot(0, 1, 1, 1);
        }
        yard.set(0, 0, 0);
        yard.set(1, 1, 0);
        yard.set(2, 2, 0);
        yard.ramp(50, 120, 2);
        yard.ramp(50, 130, 2);
        checks.same("light", yard.light(), 3);
        checks.same("LIT", yard.many(2), 1);
        checks.same("RAMP", yard.many(3), 0);
        checks.same("HELD", yard.many(4), 0);
        checks.badState("light as it is lit", yard, () -> yard.light());
        yard.burn(9);
        checks.same("it went out", yard.many(2), 0);
        checks.same("light with broken pots", yard.light(), 3);
        checks.same("RAMP again", yard.many(3), 0);
    }

    private static void promise13BurnUnlit() {
        KilnYard yard = new KilnYard();
        checks.same("burn unlit", yard.burn(7), false);
        checks.same("HEAT stays 20.0", yard.kiln(0), 20.0);
        checks.same("CLOCK", yard.many(1), 7);
        checks.same("FUEL", yard.many(10), 0);
        Scenes.heatTo(yard, 180);
        yard.burn(20);
        checks.same("burn behind the last ramp", yard.burn(1), false);
        checks.same("it falls by an eighth at once", yard.kiln(0), 160.0);
        yard.burn(1);
        checks.same("it falls by an eighth", yard.kiln(0), 142.5);
        yard.door(true);
        yard.burn(1);
        checks.same("it falls by a half with the door open", yard.kiln(0), 81.25);
        yard.burn(2);
        checks.same("it falls by a half twice", yard.kiln(0), 35.3125);
    }

    private static void promise13BurnRises() {
        KilnYard yard = new KilnYard();
        yard.ramp(200, 300, 0);
        yard.light();
        checks.same("burn", yard.burn(1), true);
        checks.same("it rises by GIVES", yard.kiln(0), 110.0);
        yard.burn(1);
        checks.same("GIVES is less as it is hotter", yard.kiln(0), 110.0 + 90.0 - 90.0 / 16.0);
        yard.door(true);
        yard.burn(1);
        checks.same("GIVES is less as the door is open", yard.kiln(0), 194.375 + 90.0 - 174.375 / 16.0 - 50.0);
        yard.door(false);
        yard.burn(1);
        checks.same("it rises to TARGET at most", yard.kiln(0), 300.0);
        KilnYard slow = new KilnYard();
        slow.ramp(35, 100, 0);
        slow.light();
        slow.burn(2);
        checks.same("it rises by RATE", slow.kiln(0), 90.0);
        slow.burn(1);
        checks.same("it rises to TARGET at most", slow.kiln(0), 100.0);
    }

    private static void promise13BurnFalls() {
        KilnYard yard = new KilnYard();
        yard.ramp(200, 180, 0);
        yard.ramp(15, 150, 0);
        yard.ramp(200, 120, 0);
        yard.light();
        yard.burn(3);
        checks.same("it falls by RATE", yard.kiln(0), 165.0);
        yard.door(true);
        yard.burn(2);
        checks.same("it falls by an eighth, with the door open too", yard.kiln(0), 150.0 - 130.0 / 8.0);
        checks.same("it is LIT", yard.many(2), 1);
        yard.burn(1);
        checks.same("it falls to TARGET at least", yard.kiln(0), 120.0);
        checks.same("RAMP", yard.many(3), 2);
        checks.same("FUEL for falling", yard.many(10), 6);
    }

    private static void promise13BurnHolds() {
        KilnYard yard = new KilnYard();
        yard.ramp(200, 100, 2);
        yard.ramp(200, 100, 0);
        yard.ramp(200, 100, 0);
        yard.ramp(10, 105, 1);
        yard.ramp(10, 105, 0);
        yard.light();
        // After each step: RAMP, HELD.
        int[][] due = {{0, 0}, {0, 1}, {0, 2}, {3, 0}, {3, 1}};
        for (int i = 0; i < due.length; i++) {
            checks.same("step " + i, yard.burn(1), true);
            checks.same("RAMP behind step " + i, yard.many(3), due[i][0]);
            checks.same("HELD behind step " + i, yard.many(4), due[i][1]);
        }
        checks.same("HEAT is held", yard.kiln(0), 105.0);
        checks.same("behind the last ramp", yard.burn(1), false);
        checks.same("HEAT then", yard.kiln(0), 105.0 - 85.0 / 8.0);
        checks.same("RAMP then", yard.many(3), -1);
        checks.same("HELD then", yard.many(4), 0);
        checks.same("CLOCK", yard.many(1), 6);
        fiveRampsInOneStep();
    }

    private static void fiveRampsInOneStep() {
        KilnYard yard = new KilnYard();
        for (int i = 0; i < 5; i++) {
            yard.ramp(80, 100, 0);
        }
        yard.light();
        checks.same("to TARGET", yard.burn(1), true);
        checks.same("behind all five", yard.burn(1), false);
        checks.same("HEAT then", yard.kiln(0), 90.0);
        checks.same("FUEL then", yard.many(10), 1);
    }

    private static void promise13BurnStalls() {
        KilnYard yard = new KilnYard();
        yard.ramp(200, 644, 0);
        yard.ramp(10, 645, 0);
        yard.ramp(10, 1400, 0);
        yard.light();
        while (yard.many(3) != 2) {
            yard.burn(1);
        }
        int fuel = yard.many(10);
        yard.door(true);
        // 90.0 - 635.0 / 16.0 - 50.0 is 0.3125 at 655.0, behind this step with the door shut.
        checks.same("HEAT", yard.kiln(0), 655.0);
        checks.same("a stall", yard.burn(1), false);
        checks.same("HEAT stays", yard.kiln(0), 655.0);
        checks.same("STALLS", yard.many(11), 1);
        checks.same("a stall costs fuel", yard.many(10), fuel + 1);
        yard.burn(1);
        checks.same("HEAT falls then", yard.kiln(0), 337.5);
        checks.same("FUEL stays", yard.many(10), fuel + 1);
        justNoStall();
    }

    /** With GIVES of 1.0 it still rises: 90.0 - 624.0 / 16.0 - 50.0 at 644.0. */
    private static void justNoStall() {
        KilnYard yard = new KilnYard();
        yard.ramp(200, 644, 0);
        yard.ramp(200, 646, 0);
        yard.light();
        while (yard.kiln(0) != 644.0) {
            yard.burn(1);
        }
        yard.door(true);
        checks.same("GIVES", yard.kiln(2), 1.0);
        checks.same("no stall", yard.burn(1), true);
        checks.same("HEAT", yard.kiln(0), 645.0);
        checks.same("STALLS", yard.many(11), 0);
        checks.same("a stall", yard.burn(1), false);
        checks.same("STALLS", yard.many(11), 1);
        checks.same("HEAT stays", yard.kiln(0), 645.0);
    }

    private static void promise13BurnCostsFuel() {
        KilnYard yard = new KilnYard();
        for (int i = 0; i < 5; i++) {
            yard.ramp(10, 1000 + i, 20);
        }
        yard.light();
        yard.burn(32);
        checks.same("FUEL of steps 0 to 31", yard.many(10), 32);
        yard.burn(1);
        checks.same("FUEL with step 32", yard.many(10), 34);
        yard.burn(46);
        checks.same("FUEL with step 78", yard.many(10), 126);
        yard.burn(1);
        checks.same("FUEL with step 79", yard.many(10), 128);
        yard.burn(1);
        checks.same("FUEL with step 80", yard.many(10), 129);
        yard.burn(47);
        checks.same("FUEL with step 127", yard.many(10), 176);
        yard.burn(1);
        checks.same("FUEL with step 128", yard.many(10), 178);
        checks.same("still LIT", yard.many(2), 1);
    }

    private static void promise13BurnWorks() {
        KilnYard yard = new KilnYard();
        yard.ramp(200, 692, 0);
        yard.ramp(10, 700, 0);
        yard.ramp(12, 712, 0);
        yard.ramp(20, 732, 0);
        yard.light();
        while (yard.kiln(0) != 692.0) {
            yard.burn(1);
        }
        checksWorks("at 692.0", yard, 0.0, 0.0, 0.0);
        yard.burn(1);
        checksWorks("at 700.0", yard, 0.0, 0.0, 0.25);
        yard.burn(1);
        checksWorks("at 712.0", yard, 0.0, 0.375, 0.875);
        yard.burn(1);
        checksWorks("at 732.0", yard, 0.625, 1.375, 2.125);
        yard.burn(1);
        checks.same("not LIT", yard.kiln(0), 643.0);
        checksWorks("at 643.0", yard, 0.625, 1.375, 2.125);
        worksAsItCools();
    }

    private static void worksAsItCools() {
        KilnYard yard = new KilnYard();
        yard.ramp(200, 820, 0);
        yard.light();
        while (yard.kiln(0) != 820.0) {
            yard.burn(1);
        }
        double before = yard.kiln(4);
        yard.burn(1);
        checks.same("HEAT", yard.kiln(0), 720.0);
        checks.same("WORK of a kiln that is not LIT", yard.kiln(4), before + 0.625);
    }

    private static void checksWorks(String when, KilnYard yard, double low, double middle, double high) {
        checks.same("WORK of shelf 0 " + when, yard.kiln(3), low);
        checks.same("WORK of shelf 1 " + when, yard.kiln(4), middle);
        checks.same("WORK of shelf 2 " + when, yard.kiln(5), high);
    }

    private static void promise13BurnBursts() {
        KilnYard yard = Scenes.furnished();
        for (int pot = 0; pot < 4; pot++) {
            yard.pot(0, 1, 1, 1);
        }
        yard.set(0, 0, 0);
        yard.set(1, 1, 0);
        yard.set(2, 2, 0);
        yard.ramp(80, 100, 0);
        yard.ramp(12, 112, 0);
        yard.ramp(20, 120, 0);
        yard.light();
        yard.burn(1);
        checksStates("at 100.0", yard, 0, 0, 5);
        checks.same("BURST", yard.ofPot(2, 2), 1);
        yard.burn(1);
        checksStates("at 112.0", yard, 0, 5, 5);
        yard.burn(1);
        checksStates("at 120.0", yard, 5, 5, 5);
        checks.same("BURST once", yard.ofPot(2, 2), 1);
        checks.same("a pot on no shelf", yard.ofPot(3, 0), 0);
        checks.same("a broken pot stays there", yard.ofPot(2, 3), 2);
        KilnYard little = Scenes.furnished();
        little.pot(0, 1, 1, 1);
        little.set(0, 1, 0);
        Scenes.heatTo(little, 101);
        checks.same("STATE at 101.0", little.ofPot(0, 0), 5);
    }

    private static void checksStates(String when, KilnYard yard, int low, int middle, int high) {
        checks.same("STATE on shelf 0 " + when, yard.ofPot(0, 0), low);
        checks.same("STATE on shelf 1 " + when, yard.ofPot(1, 0), middle);
        checks.same("STATE on shelf 2 " + when, yard.ofPot(2, 0), high);
    }

    /** From the target of one ramp to that of the next in one step; each pot is on shelf 1. */
    private static String marksOfStep(int from, int to, int shelf) {
        KilnYard yard = Scenes.furnished();
        for (int wall = 1; wall <= 4; wall *= 2) {
            yard.pot(0, 1, 1, wall);
        }
        for (int i = 0; i < 9; i++) {
            yard.dry(8, 1);
        }
        for (int pot = 0; pot < 3; pot++) {
            yard.set(pot, shelf, pot);
        }
        // Slowly to where the step begins, so that nothing cracks on the way.
        yard.ramp(30, from, 0);
        yard.ramp(200, to, 0);
        yard.light();
        while (yard.kiln(0) != from) {
            yard.burn(1);
        }
        yard.burn(1);
        return "at " + yard.kiln(0) + " " + yard.ofPot(0, 2) + " " + yard.ofPot(1, 2) + " " + yard.ofPot(2, 2);
    }

    private static void promise13BurnCracksRising() {
        checks.same("up by 32", marksOfStep(541, 573, 1), "at 573.0 0 0 0");
        checks.same("up by 33", marksOfStep(541, 574, 1), "at 574.0 0 0 2");
        checks.same("up by 33 to just 573", marksOfStep(540, 573, 1), "at 573.0 0 0 2");
        checks.same("up by 40 to below", marksOfStep(532, 572, 1), "at 572.0 0 0 0");
        checks.same("up by 40 from just 573", marksOfStep(573, 613, 1), "at 613.0 0 0 0");
        checks.same("up by 40 on shelf 0, not to 573", marksOfStep(544, 584, 0), "at 584.0 0 0 0");
        checks.same("up by 40 on shelf 0, to 573", marksOfStep(545, 585, 0), "at 585.0 0 0 2");
        checks.same("up by 40 on shelf 2, to 573", marksOfStep(525, 565, 2), "at 565.0 0 0 2");
        checks.same("up by 40 on shelf 2, not to 573", marksOfStep(524, 564, 2), "at 564.0 0 0 0");
        checks.same("up by 40 on shelf 2, from 573", marksOfStep(565, 605, 2), "at 605.0 0 0 0");
    }

    private static void promise13BurnCracksFalling() {
        checks.same("down by 32", marksOfStep(605, 573, 1), "at 573.0 0 0 0");
        checks.same("down by 33 to just 573", marksOfStep(606, 573, 1), "at 573.0 0 0 2");
        checks.same("down by 40 to above", marksOfStep(614, 574, 1), "at 574.0 0 0 0");
        checks.same("down by 40 from just 573", marksOfStep(573, 533, 1), "at 533.0 0 0 0");
        checks.same("down by 64", marksOfStep(574, 510, 1), "at 510.0 0 0 2");
        checks.same("down by 65", marksOfStep(574, 509, 1), "at 509.0 0 2 2");
        coolingCracks();
        cracksByLittle();
    }

    /** A stall leaves the kiln at a heat that is not whole, from which it falls by 43.0 and 32.1875. */
    private static void cracksByLittle() {
        KilnYard yard = Scenes.furnished();
        yard.pot(0, 1, 1, 4);
        yard.dry(8, 8);
        yard.set(0, 1, 0);
        yard.ramp(30, 593, 0);
        yard.ramp(200, 1400, 0);
        yard.light();
        while (yard.kiln(0) <= 593.0) {
            yard.burn(1);
        }
        yard.door(true);
        yard.burn(1);
        checks.same("STALLS", yard.many(11), 1);
        checks.same("HEAT", yard.kiln(0), 647.1875);
        yard.door(false);
        yard.forget();
        yard.ramp(43, 572, 0);
        yard.light();
        yard.burn(1);
        checks.same("not cracked", yard.ofPot(0, 2), 0);
        yard.burn(1);
        checks.same("HEAT", yard.kiln(0), 572.0);
        checks.same("cracked by 32.1875", yard.ofPot(0, 2), 2);
    }

    private static void coolingCracks() {
        KilnYard yard = Scenes.withDryPots(Scenes.TOUGH, 2);
        yard.set(0, 1, 0);
        Scenes.heatTo(yard, 580);
        yard.burn(20);
        yard.burn(1);
        checks.same("HEAT", yard.kiln(0), 510.0);
        checks.same("down by 70", yard.ofPot(0, 2), 0);
        yard.burn(60);
        yard.set(1, 1, 1);
        Scenes.heatTo(yard, 580);
        yard.burn(20);
        yard.door(true);
        yard.burn(1);
        checks.same("HEAT", yard.kiln(0), 300.0);
        checks.same("down by 280", yard.ofPot(0, 2), 2);
        checks.same("down by 280", yard.ofPot(1, 2), 2);
        checks.same("a crack does not break it", yard.ofPot(1, 0), 1);
    }

    private static void promise13BurnSmokes() {
        KilnYard yard = Scenes.withDryPots(Scenes.TOUGH, 3);
        for (int pot = 0; pot < 3; pot++) {
            yard.set(pot, pot, pot);
        }
        yard.damper(3);
        yard.ramp(200, 700, 0);
        yard.ramp(40, 792, 3);
        yard.ramp(40, 800, 1);
        yard.ramp(40, 812, 1);
        yard.light();
        while (yard.kiln(0) != 780.0) {
            yard.burn(1);
        }
        checksSmokes("at 780.0", yard, 0, 0, 0);
        yard.burn(1);
        checksSmokes("at 792.0 with a damper of 3", yard, 0, 0, 1);
        yard.damper(2);
        yard.burn(1);
        checksSmokes("at 792.0 with a damper of 2", yard, 0, 0, 1);
        yard.damper(4);
        yard.burn(2);
        checksSmokes("at 792.0 with a damper of 4", yard, 0, 0, 3);
        yard.burn(2);
        checksSmokes("at 800.0", yard, 0, 2, 5);
        yard.burn(2);
        checksSmokes("at 812.0", yard, 2, 4, 7);
        yard.burn(60);
        checksSmokes("as it has cooled", yard, 2, 4, 7);
        yard.unload();
        checksSmokes("behind an unloading", yard, 2, 4, 7);
        brokenDoesNotSmoke();
    }

    private static void checksSmokes(String when, KilnYard yard, int low, int middle, int high) {
        checks.same("SMOKE on shelf 0 " + when, yard.ofPot(0, 5), low);
        checks.same("SMOKE on shelf 1 " + when, yard.ofPot(1, 5), middle);
        checks.same("SMOKE on shelf 2 " + when, yard.ofPot(2, 5), high);
    }

    private static void brokenDoesNotSmoke() {
        KilnYard yard = Scenes.furnished();
        yard.pot(0, 1, 1, 4);
        yard.pot(0, 1, 1, 4);
        yard.set(0, 1, 0);
        yard.damper(4);
        Scenes.heatTo(yard, 820);
        checks.same("a broken pot has no smoke", yard.ofPot(0, 5), 0);
        checks.same("a broken pot does not crack", yard.ofPot(0, 2), 1);
        checks.same("a pot on no shelf has no smoke", yard.ofPot(1, 5), 0);
    }

    private static void promise13BurnRefuses() {
        KilnYard yard = new KilnYard();
        yard.ramp(10, 100, 0);
        yard.light();
        for (int wrong : new int[] {0, -1, 61, Integer.MAX_VALUE, Integer.MIN_VALUE}) {
            checks.badArgument("burn " + wrong, yard, () -> yard.burn(wrong));
        }
        checks.same("burn 60", yard.burn(60), false);
        checks.same("CLOCK", yard.many(1), 60);
    }

    private static void promise14Damper() {
        KilnYard yard = new KilnYard();
        checks.same("damper 4", yard.damper(4), 0);
        checks.badArgument("damper -1", yard, () -> yard.damper(-1));
        checks.badArgument("damper 5", yard, () -> yard.damper(5));
        checks.same("damper 1", yard.damper(1), 4);
        checks.same("damper 0", yard.damper(0), 1);
        checks.same("damper 0 again", yard.damper(0), 0);
    }

    private static void promise15Door() {
        KilnYard yard = new KilnYard();
        checks.same("open", yard.door(true), false);
        checks.same("is open", yard.many(15), 1);
        checks.same("open again", yard.door(true), true);
        checks.same("shut", yard.door(false), true);
        checks.same("is shut", yard.many(15), 0);
        checks.same("shut again", yard.door(false), false);
    }

    private static void promise16Bell() {
        KilnYard yard = new KilnYard();
        checks.same("bell", yard.bell(), 1);
        yard.door(true);
        checks.same("bell with the door open", yard.bell(), 2);
        checks.same("the door stays open", yard.many(15), 1);
        yard.door(false);
        checks.same("bell again", yard.bell(), 3);
        checks.same("REFUSED", yard.many(14), 3);
        checks.same("the door stays shut", yard.many(15), 0);
    }

    private static void promise17UnloadRefuses() {
        KilnYard yard = Scenes.withDryPots(Scenes.TOUGH, 1);
        yard.set(0, 1, 0);
        Scenes.heatTo(yard, 180);
        checks.badState("unload as it is lit", yard, () -> yard.unload());
        Scenes.coolToHundred(yard);
        checks.badState("unload at 100.0", yard, () -> yard.unload());
        yard.burn(1);
        checks.same("unload at 90.0", yard.unload(), 0);
        yard.light();
        checks.badState("unload as it is lit and cold", yard, () -> yard.unload());
    }

    private static void promise17UnloadDry() {
        int[] cones = {0, 1, 2, 3};
        int[] states = {1, 1, 2, 2};
        for (int i = 0; i < cones.length; i++) {
            KilnYard yard = Scenes.withDryPots(Scenes.WEAK, 2);
            yard.pot(0, 2, 2, 2);
            yard.set(0, 1, 0);
            yard.set(2, 0, 3);
            yard.take(2);
            Scenes.fire(yard, cones[i]);
            checks.same("CONE", yard.ofShelf(1, 0), cones[i]);
            yard.set(2, 0, 3);
            checks.same("unload at " + cones[i], yard.unload(), 0);
            checks.same("a dry pot with cone " + cones[i], yard.ofPot(0, 0), states[i]);
            checks.same("a dry pot on no shelf", yard.ofPot(1, 0), 1);
            checks.same("a wet pot", yard.ofPot(2, 0), 0);
            checks.same("the wet pot's shelf", yard.ofPot(2, 3), -1);
            checks.same("the wet pot's cell", yard.ofPot(2, 4), -1);
            checks.same("CELLS of shelf 0", yard.ofShelf(0, 1), 10);
            checks.same("POTS on shelf 1", yard.ofShelf(1, 2), 0);
            checks.same("marks", yard.ofPot(0, 2), 0);
        }
    }

    private static void promise17UnloadGlazed() {
        int[] states = {3, 4, 4, 4, 4, 4};
        // The glaze melts at 2.
        int[] marks = {0, 8, 0, 0, 0, 16};
        for (int cone = 0; cone < states.length; cone++) {
            KilnYard yard = Scenes.withGlazedPots(Scenes.TOUGH, 1, Scenes.PALE);
            Scenes.fire(yard, cone);
            checks.same("unload", yard.unload(), 0);
            checks.same("a glazed pot with cone " + cone, yard.ofPot(0, 0), states[cone]);
            checks.same("its marks with cone " + cone, yard.ofPot(0, 2), marks[cone]);
            checks.same("its glaze", yard.ofPot(0, 1), Scenes.PALE);
            checks.same("its shelf", yard.ofPot(0, 3), -1);
        }
    }

    /** A glaze of melts 0 and growth 4.0 on a clay of that many quarters, with cone 2. */
    private static int marksOnClay(int quarters) {
        KilnYard yard = new KilnYard();
        yard.clay(12, quarters);
        yard.glaze(0, 1, 0, 0, 0);
        yard.pot(0, 1, 1, 1);
        yard.dry(8, 2);
        for (int i = 0; i < 2; i++) {
            yard.set(0, 1, 0);
            Scenes.fire(yard, 2);
            yard.unload();
            if (i == 0) {
                yard.dip(0, 0);
            }
        }
        return yard.ofPot(0, 2);
    }

    private static void promise17UnloadMarks() {
        checks.same("glaze above the clay by 2.0", marksOnClay(8), 0);
        checks.same("glaze below the clay by 2.0", marksOnClay(24), 0);
        checks.same("glaze below the clay by 2.25", marksOnClay(25), 64);
        KilnYard yard = new KilnYard();
        yard.clay(12, 8);
        // Growth 8.0 and 8.0 * 60 + 4.0 * 59 by 119, melts 0.
        yard.glaze(1, 0, 0, 0, 0);
        yard.glaze(1, 59, 0, 0, 5);
        yard.pot(0, 1, 1, 1);
        yard.pot(0, 1, 1, 1);
        yard.dry(1, 8);
        yard.dry(1, 8);
        for (int i = 0; i < 2; i++) {
            yard.set(0, 1, 0);
            yard.set(1, 1, 1);
            Scenes.fire(yard, 3);
            yard.unload();
            if (i == 0) {
                yard.dip(0, 0);
                yard.dip(1, 1);
            }
        }
        checks.same("CRACKED, RUN and CRAZED", yard.ofPot(0, 2), 2 + 16 + 32);
        checks.same("CRACKED, RUN and CRAZED by little", yard.ofPot(1, 2), 2 + 16 + 32);
    }

    private static void promise17UnloadSlumps() {
        KilnYard yard = Scenes.withDryPots(Scenes.WEAK, 2);
        yard.set(0, 1, 0);
        Scenes.fire(yard, 4);
        checks.same("unload", yard.unload(), 1);
        checks.same("a dry pot above TOP", yard.ofPot(0, 0), 5);
        checks.same("its marks", yard.ofPot(0, 2), 4);
        checks.same("its shelf", yard.ofPot(0, 3), -1);
        KilnYard glazed = Scenes.withGlazedPots(Scenes.WEAK, 2, Scenes.PALE);
        glazed.pot(0, 1, 1, 1);
        glazed.set(2, 2, 0);
        Scenes.fire(glazed, 5);
        checks.same("unload with a burst one", glazed.unload(), 3);
        checks.same("a glazed pot above TOP", glazed.ofPot(0, 0), 5);
        checks.same("its marks, RUN not told", glazed.ofPot(0, 2), 4);
        checks.same("the other", glazed.ofPot(1, 2), 4);
        checks.same("the burst one", glazed.ofPot(2, 2), 1);
        checks.same("unload again", glazed.unload(), 0);
    }

    /** Each pot feels the cone of its own shelf. */
    private static void promise17UnloadShelves() {
        KilnYard yard = Scenes.withDryPots(Scenes.WEAK, 3);
        for (int pot = 0; pot < 3; pot++) {
            yard.set(pot, pot, 0);
        }
        yard.ramp(200, 690, 0);
        yard.ramp(200, 732, 20);
        yard.ramp(200, 732, 2);
        yard.light();
        yard.burn(60);
        yard.burn(60);
        // 23 steps: of 0.625, 1.0 and 1.25.
        checks.same("CONE of shelf 0", yard.ofShelf(0, 0), 1);
        checks.same("CONE of shelf 1", yard.ofShelf(1, 0), 2);
        checks.same("CONE of shelf 2", yard.ofShelf(2, 0), 3);
        yard.unload();
        checks.same("pot on shelf 0", yard.ofPot(0, 0), 1);
        checks.same("pot on shelf 1", yard.ofPot(1, 0), 2);
        checks.same("pot on shelf 2", yard.ofPot(2, 0), 2);
        for (int shelf = 0; shelf < 3; shelf++) {
            checks.same("WORK then", yard.kiln(3 + shelf), 0.0);
            checks.same("CONE then", yard.ofShelf(shelf, 0), 0);
        }
    }

    private static void promise17UnloadPower() {
        KilnYard yard = new KilnYard();
        yard.unload();
        checks.same("POWER without work", yard.kiln(1), 1.0);
        float due = 1f;
        for (int i = 0; i < 5; i++) {
            Scenes.fire(yard, 0);
            yard.unload();
            due = due * (63f / 64f);
            checks.same("POWER with work", yard.kiln(1), due);
            yard.unload();
            checks.same("POWER without work since", yard.kiln(1), due);
        }
        workOfShelf2Alone();
    }

    private static void workOfShelf2Alone() {
        KilnYard yard = new KilnYard();
        Scenes.heatTo(yard, 692);
        Scenes.cool(yard);
        yard.burn(60);
        yard.unload();
        checks.same("POWER without work on shelf 2", yard.kiln(1), 1.0);
        Scenes.heatTo(yard, 693);
        yard.burn(60);
        yard.unload();
        checks.same("POWER with work on shelf 2 alone", yard.kiln(1), 0.984375);
    }
}
