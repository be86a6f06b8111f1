/**
 * Promise 13, sentence by sentence: the boundary cases of a step.
 * The remark on each test names its promise and quotes the sentence that it holds.
 * Where a boundary is no whole number, the nearest values on both sides are
 * those to which a program comes.
 */
final class BurnEdgesTest {
    private static final Checks checks = new Checks();
    private static final Twins twins = new Twins(checks);

    public static void main(String[] args) {
        promise13Steps();
        promise13HeldIsHold();
        promise13HeatIsTarget();
        promise13SeveralInOneStep();
        promise13BehindTheLast();
        promise13GivesBelow1();
        promise13GivesWithDoor();
        promise13RisesBySmaller();
        promise13RisesToTarget();
        promise13FallsBySmaller();
        promise13FallsToTarget();
        promise13TargetAlready();
        promise13Fuel();
        promise13FuelOfStall();
        promise13FuelUnlit();
        promise13FallsUnlit();
        promise13NoColderThan20();
        promise13Clock();
        promise13WorkAbove700();
        promise13BurstAbove100();
        promise13OnlyWetBursts();
        promise13BurstBesideCracked();
        promise13RisesOver573();
        promise13FallsOver573();
        promise13CrackedByMoreThan32();
        promise13CrackedByMoreThan64();
        promise13CrackedByMoreThan128();
        promise13CrackedByShelf();
        promise13SmokeByDamper();
        promise13SmokeFrom800();
        promise13BrokenNothingMore();
        checks.end();
    }

    /** Promise 13: "IllegalArgumentException if steps is not 1 to 60", "(also as it is not LIT)". */
    private static void promise13Steps() {
        KilnYard yard = new KilnYard();
        checks.same("burn 1", yard.burn(1), false);
        checks.same("CLOCK behind 1", yard.many(1), 1);
        checks.same("burn 60", yard.burn(60), false);
        checks.same("CLOCK behind 60 more", yard.many(1), 61);
        for (int steps : Twins.outside(1, 60)) {
            twins.badArgument("burn " + steps, () -> Scenes.litAfter(0), it -> it.burn(steps));
            twins.badArgument("burn unlit " + steps, Scenes::withAllStates, it -> it.burn(steps));
        }
    }

    /** Promise 13: "HELD is HOLD of the RAMP: the next RAMP, with HELD 0". */
    private static void promise13HeldIsHold() {
        KilnYard yard = new KilnYard();
        yard.ramp(80, 100, 1);
        yard.ramp(80, 100, 2);
        yard.light();
        // Behind each step: RAMP and HELD.
        int[][] due = {{0, 0}, {0, 1}, {1, 1}, {1, 2}};
        for (int[] at : due) {
            checks.same("LIT", yard.burn(1), true);
            checks.same("RAMP", yard.many(3), at[0]);
            checks.same("HELD", yard.many(4), at[1]);
        }
        checks.same("LIT behind HOLD of the last", yard.burn(1), false);
    }

    /** Promise 13: "HEAT is the TARGET": a little below or above it is not. */
    private static void promise13HeatIsTarget() {
        KilnYard below = Scenes.lit(79, 100, 0);
        below.burn(1);
        checks.same("HEAT below TARGET", below.kiln(0), 99.0);
        checks.same("LIT a STEP on", below.burn(1), true);
        checks.same("LIT behind TARGET", below.burn(1), false);
        // From 180.0 an eighth of 160.0 is 20.0, and then 17.5.
        KilnYard above = new KilnYard();
        above.ramp(200, 180, 0);
        above.ramp(200, 159, 0);
        above.light();
        above.burn(3);
        checks.same("HEAT above TARGET", above.kiln(0), 160.0);
        checks.same("LIT a STEP on", above.burn(1), true);
        checks.same("HEAT then", above.kiln(0), 159.0);
        checks.same("LIT behind TARGET", above.burn(1), false);
    }

    /** Promise 13: "(several in one STEP, if so)": up to all five, and what the one it comes to asks for follows. */
    private static void promise13SeveralInOneStep() {
        KilnYard all = new KilnYard();
        for (int ramp = 0; ramp < 5; ramp++) {
            all.ramp(80, 100, 0);
        }
        all.light();
        checks.same("LIT at TARGET", all.burn(1), true);
        checks.same("RAMP", all.many(3), 0);
        checks.same("LIT behind all five", all.burn(1), false);
        checks.same("HEAT then", all.kiln(0), 90.0);
        KilnYard four = new KilnYard();
        for (int ramp = 0; ramp < 4; ramp++) {
            four.ramp(80, 100, 0);
        }
        four.ramp(10, 200, 0);
        four.light();
        four.burn(1);
        checks.same("LIT behind four", four.burn(1), true);
        checks.same("RAMP", four.many(3), 4);
        checks.same("HEAT then", four.kiln(0), 110.0);
    }

    /** Promise 13: "behind the last one it is not LIT any more", "(3) If it was not LIT behind (1): HEAT falls". */
    private static void promise13BehindTheLast() {
        KilnYard yard = Scenes.litAfter(1);
        checks.same("LIT", yard.many(2), 1);
        checks.same("RAMP", yard.many(3), 0);
        checks.same("burn behind the last", yard.burn(1), false);
        checks.same("RAMP then", yard.many(3), -1);
        checks.same("HELD then", yard.many(4), 0);
        checks.same("HEAT falls in that STEP", yard.kiln(0), 90.0);
        checks.same("it is no STALL", yard.many(11), 0);
    }

    /** Lit with the door open, risen by the rate from where it has cooled to. */
    private static KilnYard litOpen(int[] from, int rate, int steps) {
        KilnYard yard = new KilnYard();
        NearHeat.cool(yard, from);
        NearHeat.rise(yard, rate, steps);
        yard.door(true);
        return yard;
    }

    /** Promise 13: "with GIVES below 1.0 the kiln is not LIT any more (a STALL, counted), and HEAT stays". */
    private static void promise13GivesBelow1() {
        KilnYard above = litOpen(NearHeat.BELOW_64, 29, 20);
        double gives = above.kiln(2);
        double heat = above.kiln(0);
        checks.between("GIVES", gives, 1.0, 1.0001);
        checks.same("LIT with that", above.burn(1), true);
        checks.same("HEAT", above.kiln(0), heat + gives);
        checks.same("STALLS", above.many(11), 0);
        KilnYard just = new KilnYard();
        just.ramp(200, 644, 20);
        just.ramp(200, 1400, 0);
        just.light();
        just.burn(29);
        just.door(true);
        checks.same("HELD", just.many(4), 20);
        checks.same("GIVES", just.kiln(2), 1.0);
        checks.same("LIT with that", just.burn(1), true);
        checks.same("HEAT", just.kiln(0), 645.0);
        checks.same("STALLS", just.many(11), 0);
        KilnYard below = litOpen(NearHeat.ABOVE_66, 34, 17);
        heat = below.kiln(0);
        checks.between("GIVES", below.kiln(2), 0.9999, 1.0);
        checks.same("LIT with that", below.burn(1), false);
        checks.same("HEAT stays", below.kiln(0), heat);
        checks.same("STALLS", below.many(11), 1);
        below.light();
        below.burn(1);
        checks.same("STALLS, counted", below.many(11), 2);
    }

    /** Promise 13: "GIVES .. less 50.0 if the DOOR is open", and a STALL only "If HEAT is below TARGET". */
    private static void promise13GivesWithDoor() {
        KilnYard yard = new KilnYard();
        yard.ramp(200, 700, 1);
        yard.ramp(200, 650, 0);
        yard.light();
        while (yard.kiln(0) != 700.0) {
            yard.burn(1);
        }
        yard.door(true);
        checks.same("GIVES below 0.0", yard.kiln(2), -2.5);
        checks.same("LIT at TARGET", yard.burn(1), true);
        checks.same("HELD", yard.many(4), 1);
        checks.same("LIT above TARGET", yard.burn(1), true);
        checks.same("HEAT", yard.kiln(0), 650.0);
        checks.same("STALLS", yard.many(11), 0);
    }

    private static double heatAfterStep(int rate, int target) {
        KilnYard yard = Scenes.lit(rate, target, 0);
        yard.burn(1);
        return yard.kiln(0);
    }

    /** Promise 13: "HEAT rises by the smaller one of RATE and GIVES": GIVES is 90.0 at first. */
    private static void promise13RisesBySmaller() {
        checks.same("HEAT by RATE 89", heatAfterStep(89, 1400), 109.0);
        checks.same("HEAT by RATE 90", heatAfterStep(90, 1400), 110.0);
        checks.same("HEAT by RATE 91", heatAfterStep(91, 1400), 110.0);
    }

    /** Promise 13: "HEAT rises .. but to TARGET (just that) at most". */
    private static void promise13RisesToTarget() {
        checks.same("HEAT below TARGET by 1", heatAfterStep(80, 101), 100.0);
        checks.same("HEAT at TARGET", heatAfterStep(80, 100), 100.0);
        checks.same("HEAT not above TARGET by 1", heatAfterStep(81, 100), 100.0);
        checks.same("HEAT not above TARGET by GIVES", heatAfterStep(200, 109), 109.0);
    }

    /** In a step from 180.0, where an eighth of what is above 20.0 is 20.0. */
    private static double heatAfterFall(int rate, int target) {
        KilnYard yard = new KilnYard();
        yard.ramp(200, 180, 0);
        yard.ramp(rate, target, 0);
        yard.light();
        yard.burn(3);
        return yard.kiln(0);
    }

    /** Promise 13: "it falls by the smaller one of RATE and (HEAT - 20.0) / 8.0". */
    private static void promise13FallsBySmaller() {
        checks.same("HEAT by RATE 19", heatAfterFall(19, 100), 161.0);
        checks.same("HEAT by RATE 20", heatAfterFall(20, 100), 160.0);
        checks.same("HEAT by RATE 21", heatAfterFall(21, 100), 160.0);
    }

    /** Promise 13: "it falls .. but to TARGET (just that) at least". */
    private static void promise13FallsToTarget() {
        checks.same("HEAT above TARGET by 1", heatAfterFall(20, 159), 160.0);
        checks.same("HEAT at TARGET", heatAfterFall(20, 160), 160.0);
        checks.same("HEAT not below TARGET by 1", heatAfterFall(20, 161), 161.0);
    }

    /** Promise 13: "If HEAT was TARGET already: HELD is 1 more.", not in the STEP that comes to it. */
    private static void promise13TargetAlready() {
        KilnYard risen = Scenes.lit(80, 100, 5);
        risen.burn(1);
        checks.same("HELD as it comes to TARGET", risen.many(4), 0);
        risen.burn(1);
        checks.same("HELD a STEP on", risen.many(4), 1);
        checks.same("HEAT stays", risen.kiln(0), 100.0);
        KilnYard fallen = new KilnYard();
        fallen.ramp(200, 180, 0);
        fallen.ramp(20, 160, 5);
        fallen.light();
        fallen.burn(3);
        checks.same("HELD as it falls to TARGET", fallen.many(4), 0);
        fallen.burn(1);
        checks.same("HELD a STEP on", fallen.many(4), 1);
    }

    /** Promise 13: "costs 2 FUEL, if CLOCK modulo 96 is 32 to 79, otherwise 1", around the days of the CLOCK too. */
    private static void promise13Fuel() {
        KilnYard yard = new KilnYard();
        for (int ramp = 0; ramp < 5; ramp++) {
            yard.ramp(10, 1000 + ramp, 20);
        }
        yard.light();
        int[] clocks = {0, 31, 32, 79, 80, 95, 96, 127, 128, 175, 176};
        int[] costs = {1, 1, 2, 2, 1, 1, 1, 1, 2, 2, 1};
        for (int i = 0; i < clocks.length; i++) {
            Scenes.burnOn(yard, clocks[i] - yard.many(1));
            int before = yard.many(10);
            checks.same("LIT", yard.burn(1), true);
            checks.same("FUEL at CLOCK " + clocks[i], yard.many(10) - before, costs[i]);
        }
        checks.same("FUEL in all", yard.many(10), 32 + 2 * 48 + 16 + 32 + 2 * 48 + 1);
    }

    /** Promise 13: "The STEP (also with a STALL) costs 2 FUEL, if CLOCK modulo 96 is 32 to 79, otherwise 1." */
    private static void promise13FuelOfStall() {
        int[] clocks = {31, 32, 79, 80};
        int[] costs = {1, 2, 2, 1};
        for (int i = 0; i < clocks.length; i++) {
            KilnYard yard = new KilnYard();
            Scenes.burnOn(yard, clocks[i] - 9);
            yard.ramp(200, 1400, 0);
            yard.light();
            // In nine steps it comes to more than 644.0.
            yard.burn(9);
            yard.door(true);
            int before = yard.many(10);
            checks.same("CLOCK", yard.many(1), clocks[i]);
            checks.same("a STALL", yard.burn(1), false);
            checks.same("STALLS", yard.many(11), 1);
            checks.same("FUEL of a STALL at CLOCK " + clocks[i], yard.many(10) - before, costs[i]);
        }
    }

    /** Promise 13: "(2) If it is LIT: .. The STEP .. costs": no FUEL if it is not LIT behind (1). */
    private static void promise13FuelUnlit() {
        KilnYard yard = new KilnYard();
        yard.burn(60);
        checks.same("FUEL as it was never LIT", yard.many(10), 0);
        KilnYard out = Scenes.litAfter(1);
        checks.same("FUEL of a STEP", out.many(10), 1);
        out.burn(1);
        checks.same("FUEL of that which goes out", out.many(10), 1);
        out.burn(60);
        checks.same("FUEL behind it", out.many(10), 1);
    }

    /** Promise 13: "HEAT falls by (HEAT - 20.0) / 8.0, with the DOOR open by (HEAT - 20.0) / 2.0." */
    private static void promise13FallsUnlit() {
        KilnYard shut = new KilnYard();
        Scenes.coolFrom(shut, 1400, 1, 0);
        checks.same("HEAT with the DOOR shut", shut.kiln(0), 1227.5);
        KilnYard open = new KilnYard();
        Scenes.coolFrom(open, 1400, 0, 1);
        checks.same("HEAT with the DOOR open", open.kiln(0), 710.0);
    }

    /** Promise 13: "HEAT falls by (HEAT - 20.0)": at 20.0 by nothing, and never below that. */
    private static void promise13NoColderThan20() {
        KilnYard yard = new KilnYard();
        yard.burn(60);
        yard.door(true);
        yard.burn(60);
        checks.same("HEAT as it was never LIT", yard.kiln(0), 20.0);
        KilnYard cooled = new KilnYard();
        Scenes.coolFrom(cooled, 1400, 0, 30);
        checks.same("HEAT above 20.0", cooled.kiln(0) > 20.0 && cooled.kiln(0) < 20.00001, true);
        cooled.door(true);
        cooled.burn(60);
        checks.same("HEAT not below 20.0", cooled.kiln(0), 20.0);
    }

    /** Promise 13: "the CLOCK, which counts them from 0 on and has nothing to do with DAY". */
    private static void promise13Clock() {
        KilnYard yard = new KilnYard();
        Scenes.burnOn(yard, 95);
        checks.same("CLOCK", yard.many(1), 95);
        yard.burn(1);
        checks.same("CLOCK of 96 does not wrap around", yard.many(1), 96);
        yard.burn(1);
        checks.same("CLOCK", yard.many(1), 97);
        checks.same("DAY", yard.many(0), 0);
        yard.dry(20, 1);
        checks.same("CLOCK behind 20 DAYS", yard.many(1), 97);
        checks.same("DAY behind them", yard.many(0), 20);
        checks.same("CLOCK of a LIT kiln", Scenes.litAfter(1).many(1), 1);
    }

    /** The work of the shelf behind a step to that heat; at 680.0 and 710.0, to which it comes before, it has none. */
    private static double workAt(int heat, int shelf) {
        KilnYard yard = new KilnYard();
        Scenes.arriveAt(yard, heat);
        checks.same("HEAT", yard.kiln(0), heat);
        return yard.kiln(3 + shelf);
    }

    /** Promise 13: "WORK .. is more by what HOT is above 700.0, divided by 32.0", HOT by shelf. */
    private static void promise13WorkAbove700() {
        checks.same("WORK of shelf 1 at 699", workAt(699, 1), 0.0);
        checks.same("WORK of shelf 1 at 700", workAt(700, 1), 0.0);
        checks.same("WORK of shelf 1 at 701", workAt(701, 1), 0.03125);
        KilnYard below = new KilnYard();
        NearHeat.cool(below, NearHeat.BELOW_64);
        NearHeat.rise(below, 12, 53);
        checks.between("HEAT", below.kiln(0), 699.999, 700.0);
        checks.same("WORK of shelf 1 just below 700", below.kiln(4), 0.0);
        KilnYard above = new KilnYard();
        NearHeat.cool(above, NearHeat.ABOVE_63);
        NearHeat.rise(above, 13, 49);
        checks.between("HEAT", above.kiln(0), 700.0, 700.001);
        checks.same("WORK of shelf 1 just above 700", above.kiln(4), (above.kiln(0) - 700.0) / 32.0);
        checks.same("WORK of shelf 0 at 712", workAt(712, 0), 0.0);
        checks.same("WORK of shelf 0 at 713", workAt(713, 0), 0.03125);
        checks.same("WORK of shelf 2 at 692", workAt(692, 2), 0.0);
        checks.same("WORK of shelf 2 at 693", workAt(693, 2), 0.03125);
    }

    /** The state and the marks of a wet pot on that shelf, behind a step to that heat. */
    private static String wetAt(int heat, int shelf) {
        KilnYard yard = Scenes.furnished();
        yard.pot(0, 1, 1, 1);
        yard.set(0, shelf, 0);
        // In one step by the rate, which is heat less 20.
        yard.ramp(Math.min(heat - 20, 90), Math.max(heat, 100), 0);
        yard.light();
        while (yard.kiln(0) < heat) {
            yard.burn(1);
        }
        checks.same("HEAT", yard.kiln(0), heat);
        return yard.ofPot(0, 0) + " " + yard.ofPot(0, 2);
    }

    /** Promise 13: "a WET one, if HOT is above 100.0, is BURST and BROKEN", HOT by shelf. */
    private static void promise13BurstAbove100() {
        checks.same("WET on shelf 1 at 100", wetAt(100, 1), "0 0");
        checks.same("WET on shelf 1 at 101", wetAt(101, 1), "5 1");
        KilnYard below = NearHeat.warm(1, false, 1, NearHeat.BELOW_64);
        NearHeat.rise(below, 36, 1);
        checks.between("HEAT", below.kiln(0), 99.999, 100.0);
        checks.same("WET just below 100", below.ofPot(0, 0), 0);
        KilnYard above = NearHeat.warm(1, false, 1, NearHeat.ABOVE_63);
        NearHeat.rise(above, 37, 1);
        checks.between("HEAT", above.kiln(0), 100.0, 100.001);
        checks.same("WET just above 100", above.ofPot(0, 0), 5);
        checks.same("WET on shelf 0 at 112", wetAt(112, 0), "0 0");
        checks.same("WET on shelf 0 at 113", wetAt(113, 0), "5 1");
        checks.same("WET on shelf 2 at 92", wetAt(92, 2), "0 0");
        checks.same("WET on shelf 2 at 93", wetAt(93, 2), "5 1");
    }

    /** Promise 13: "a WET one .. is BURST": one that is DRY or GLAZED is not, nor one on no shelf. */
    private static void promise13OnlyWetBursts() {
        KilnYard yard = Scenes.withAllStates();
        yard.set(1, 1, 0);
        yard.set(3, 1, 1);
        Scenes.arriveAt(yard, 500);
        checks.same("a DRY one", yard.ofPot(1, 0), 1);
        checks.same("a GLAZED one", yard.ofPot(3, 0), 3);
        checks.same("a WET one on no shelf", yard.ofPot(0, 0), 0);
        for (int pot = 0; pot < 4; pot++) {
            checks.same("MARKS", yard.ofPot(pot, 2), 0);
        }
    }

    /** Promise 13: "MARKS (a set", "a WET one .. is BURST": one that was CRACKED before stays so. */
    private static void promise13BurstBesideCracked() {
        KilnYard yard = Scenes.furnished();
        yard.pot(Scenes.TOUGH, 1, 1, 1);
        yard.dry(1, 8);
        checks.same("STATE, CRACKED", yard.ofPot(0, 0), 0);
        checks.same("MARKS, CRACKED", yard.ofPot(0, 2), 2);
        yard.set(0, 1, 0);
        Scenes.heatTo(yard, 101);
        checks.same("STATE, BURST as well", yard.ofPot(0, 0), 5);
        checks.same("MARKS, BURST as well", yard.ofPot(0, 2), 2 + 1);
    }

    /** The marks of a dry pot behind a step from the one heat to the other, both to be come to just so. */
    private static int marksOfStep(int wall, int shelf, int from, int to) {
        KilnYard yard = Scenes.withPotOnShelf(wall, shelf);
        yard.ramp(30, from, 0);
        yard.ramp(200, to, 0);
        yard.light();
        while (yard.kiln(0) != from) {
            yard.burn(1);
        }
        checks.same("MARKS before", yard.ofPot(0, 2), 0);
        yard.burn(1);
        checks.same("HEAT", yard.kiln(0), to);
        checks.same("STATE", yard.ofPot(0, 0), 1);
        return yard.ofPot(0, 2);
    }

    /** Promise 13: "HOT went over 573.0 in this STEP (it was below and is not any more ..)", by 33 and a wall of 4. */
    private static void promise13RisesOver573() {
        checks.same("to 572", marksOfStep(4, 1, 539, 572), 0);
        checks.same("to 573", marksOfStep(4, 1, 540, 573), 2);
        checks.same("from 572", marksOfStep(4, 1, 572, 605), 2);
        checks.same("from 573", marksOfStep(4, 1, 573, 606), 0);
        KilnYard below = NearHeat.warm(4, true, 1, NearHeat.BELOW_97);
        NearHeat.rise(below, 34, 14);
        checks.between("HEAT", below.kiln(0), 572.99, 573.0);
        checks.same("to just below 573", below.ofPot(0, 2), 0);
        below.burn(1);
        checks.same("from just below 573", below.ofPot(0, 2), 2);
        KilnYard above = NearHeat.warm(4, true, 1, NearHeat.ABOVE_63);
        NearHeat.rise(above, 34, 14);
        checks.same("to 539", above.ofPot(0, 2), 0);
        above.burn(1);
        checks.between("HEAT", above.kiln(0), 573.0, 573.001);
        checks.same("to just above 573", above.ofPot(0, 2), 2);
    }

    /** Promise 13: "HOT went over 573.0 in this STEP (.. or was above and is not any more)", by 33 and a wall of 4. */
    private static void promise13FallsOver573() {
        checks.same("to 574", marksOfStep(4, 1, 607, 574), 0);
        checks.same("to 573", marksOfStep(4, 1, 606, 573), 2);
        checks.same("from 574", marksOfStep(4, 1, 574, 541), 2);
        checks.same("from 573", marksOfStep(4, 1, 573, 540), 0);
        KilnYard above = NearHeat.warm(4, true, 1, NearHeat.ABOVE_63);
        NearHeat.rise(above, 30, 21);
        NearHeat.fall(above, 40, 100);
        above.burn(3);
        checks.between("HEAT", above.kiln(0), 573.0, 573.001);
        checks.same("to just above 573", above.ofPot(0, 2), 0);
        above.burn(1);
        checks.same("from just above 573", above.ofPot(0, 2), 2);
        KilnYard below = NearHeat.warm(4, true, 1, NearHeat.BELOW_97);
        NearHeat.rise(below, 29, 20);
        NearHeat.fall(below, 52, 100);
        below.burn(1);
        checks.same("to 625", below.ofPot(0, 2), 0);
        below.burn(1);
        checks.between("HEAT", below.kiln(0), 572.99, 573.0);
        checks.same("to just below 573", below.ofPot(0, 2), 2);
    }

    /** The marks behind a rise in so many steps, and a fall by the rate until the rest leads to the target. */
    private static int marksOfRest(int wall, int[] from, int up, int steps, int down, int target) {
        KilnYard yard = NearHeat.warm(wall, true, 1, from);
        NearHeat.rise(yard, up, steps);
        NearHeat.fall(yard, down, target);
        while (yard.kiln(0) != target) {
            checks.same("MARKS before", yard.ofPot(0, 2), 0);
            yard.burn(1);
        }
        return yard.ofPot(0, 2);
    }

    /** Rises from 543.438.., to which it comes by GIVES, to the target. */
    private static int marksOfRise(int target) {
        KilnYard yard = Scenes.withPotOnShelf(4, 1);
        yard.ramp(200, target, 0);
        yard.light();
        yard.burn(7);
        checks.same("HEAT", yard.kiln(0) > 543.43 && yard.kiln(0) < 543.44, true);
        yard.burn(1);
        checks.same("HEAT", yard.kiln(0), target);
        return yard.ofPot(0, 2);
    }

    /** Promise 13: "by that rose or fell by more than 128.0 / WALL", with a WALL of 4. */
    private static void promise13CrackedByMoreThan32() {
        checks.same("fell by 31", marksOfStep(4, 1, 604, 573), 0);
        checks.same("fell by 31.9989..", marksOfRest(4, NearHeat.BELOW_97, 29, 20, 36, 573), 0);
        checks.same("fell by 32", marksOfStep(4, 1, 605, 573), 0);
        checks.same("fell by 32.0002..", marksOfRest(4, NearHeat.ABOVE_63, 30, 21, 44, 573), 2);
        checks.same("fell by 33", marksOfStep(4, 1, 606, 573), 2);
        checks.same("rose by 31", marksOfStep(4, 1, 542, 573), 0);
        checks.same("rose by 31.56", marksOfRise(575), 0);
        checks.same("rose by 32", marksOfStep(4, 1, 541, 573), 0);
        checks.same("rose by 32.56", marksOfRise(576), 2);
        checks.same("rose by 33", marksOfStep(4, 1, 540, 573), 2);
    }

    /** Promise 13: "rose or fell by more than 128.0 / WALL", with a WALL of 2; it can't rise by so much there. */
    private static void promise13CrackedByMoreThan64() {
        checks.same("fell by 63", marksOfStep(2, 1, 600, 537), 0);
        checks.same("fell by 63.9989..", marksOfRest(2, NearHeat.BELOW_97, 29, 20, 65, 548), 0);
        checks.same("fell by 64", marksOfStep(2, 1, 600, 536), 0);
        checks.same("fell by 64.0002..", marksOfRest(2, NearHeat.ABOVE_63, 30, 21, 65, 564), 2);
        checks.same("fell by 65", marksOfStep(2, 1, 600, 535), 2);
        checks.same("rose by 57", marksOfStep(2, 1, 541, 598), 0);
    }

    /**
     * Promise 13: "by that rose or fell by more than 128.0 / WALL", with a WALL of 1: over 573.0 it can fall by
     * 79.0 at most with the DOOR shut, and by 277.0 at least with the DOOR open.
     */
    private static void promise13CrackedByMoreThan128() {
        KilnYard shut = Scenes.withPotOnShelf(1, 1);
        Scenes.coolFrom(shut, 652, 1, 0);
        checks.same("HEAT", shut.kiln(0), 573.0);
        checks.same("fell by 79", shut.ofPot(0, 2), 0);
        KilnYard open = Scenes.withPotOnShelf(1, 1);
        Scenes.coolFrom(open, 574, 0, 1);
        checks.same("HEAT", open.kiln(0), 297.0);
        checks.same("fell by 277", open.ofPot(0, 2), 2);
        checks.same("a crack does not break it", open.ofPot(0, 0), 1);
    }

    /** Promise 13: "HOT is HEAT - 12.0, HEAT, and HEAT + 8.0 of the shelves 0, 1 and 2", over 573.0. */
    private static void promise13CrackedByShelf() {
        checks.same("shelf 0 to 572", marksOfStep(4, 0, 551, 584), 0);
        checks.same("shelf 0 to 573", marksOfStep(4, 0, 552, 585), 2);
        checks.same("shelf 0 from 573", marksOfStep(4, 0, 585, 552), 0);
        checks.same("shelf 0 from 574", marksOfStep(4, 0, 586, 553), 2);
        checks.same("shelf 2 to 572", marksOfStep(4, 2, 531, 564), 0);
        checks.same("shelf 2 to 573", marksOfStep(4, 2, 532, 565), 2);
        checks.same("shelf 2 from 573", marksOfStep(4, 2, 565, 532), 0);
        checks.same("shelf 2 from 574", marksOfStep(4, 2, 566, 533), 2);
    }

    /** The smoke of a dry pot of wall 1 on the shelf, behind a step at that heat with that damper. */
    private static int smokeAt(int heat, int shelf, int damper) {
        KilnYard yard = Scenes.withPotOnShelf(1, shelf);
        yard.ramp(30, heat, 1);
        yard.light();
        Scenes.burnOn(yard, yard.wouldEnd() - 2);
        checks.same("HEAT", yard.kiln(0), heat);
        checks.same("SMOKE before", yard.ofPot(0, 5), 0);
        yard.damper(damper);
        yard.burn(1);
        return yard.ofPot(0, 5);
    }

    /** Promise 13: "With a DAMPER of 3 or 4 .. its SMOKE is 1 more." */
    private static void promise13SmokeByDamper() {
        int[] smokes = {0, 0, 0, 1, 1};
        for (int damper = 0; damper < 5; damper++) {
            checks.same("SMOKE with a DAMPER of " + damper, smokeAt(820, 1, damper), smokes[damper]);
        }
    }

    /** Promise 13: "and a HOT of 800.0 or more its SMOKE is 1 more", HOT by shelf. */
    private static void promise13SmokeFrom800() {
        checks.same("SMOKE on shelf 1 at 799", smokeAt(799, 1, 3), 0);
        checks.same("SMOKE on shelf 1 at 800", smokeAt(800, 1, 3), 1);
        checks.same("SMOKE on shelf 0 at 811", smokeAt(811, 0, 3), 0);
        checks.same("SMOKE on shelf 0 at 812", smokeAt(812, 0, 3), 1);
        checks.same("SMOKE on shelf 2 at 791", smokeAt(791, 2, 3), 0);
        checks.same("SMOKE on shelf 2 at 792", smokeAt(792, 2, 3), 1);
        KilnYard below = NearHeat.warm(1, true, 1, NearHeat.BELOW_97);
        NearHeat.rise(below, 19, 36);
        below.damper(4);
        below.burn(1);
        checks.between("HEAT", below.kiln(0), 799.99, 800.0);
        checks.same("SMOKE just below 800", below.ofPot(0, 5), 0);
        KilnYard above = NearHeat.warm(1, true, 1, NearHeat.ABOVE_63);
        NearHeat.rise(above, 11, 66);
        above.damper(4);
        above.burn(1);
        checks.between("HEAT", above.kiln(0), 800.0, 800.001);
        checks.same("SMOKE just above 800", above.ofPot(0, 5), 1);
    }

    /** Promise 13: "(A BROKEN one has nothing more done to it.)" */
    private static void promise13BrokenNothingMore() {
        KilnYard yard = Scenes.furnished();
        yard.pot(0, 1, 1, 4);
        yard.set(0, 1, 0);
        yard.damper(4);
        yard.ramp(200, 900, 20);
        yard.light();
        yard.burn(2);
        checks.same("STATE", yard.ofPot(0, 0), 5);
        yard.burn(40);
        yard.door(true);
        yard.burn(20);
        checks.same("MARKS, not CRACKED", yard.ofPot(0, 2), 1);
        checks.same("SMOKE", yard.ofPot(0, 5), 0);
        checks.same("WATER", yard.water(0), 8.0);
        yard.unload();
        checks.same("MARKS, not SLUMPED", yard.ofPot(0, 2), 1);
        yard.dry(20, 8);
        checks.same("WATER behind DAYS", yard.water(0), 8.0);
        checks.same("STATE then", yard.ofPot(0, 0), 5);
    }
}
