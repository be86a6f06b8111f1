/**
 * Promises 10 to 12 and 14 to 16, sentence by sentence: the boundary cases of the
 * program, of lighting, and of the damper, the door and its bell.
 * The remark on each test names its promise and quotes the sentence that it holds.
 */
final class ProgramEdgesTest {
    private static final Checks checks = new Checks();
    private static final Twins twins = new Twins(checks);

    public static void main(String[] args) {
        promise10Rate();
        promise10Target();
        promise10Hold();
        promise10AtMost5();
        promise10Lit();
        promise10Order();
        promise11Forget();
        promise11Lit();
        promise12NoRamp();
        promise12Lit();
        promise12FromRamp0();
        promise12HowMany();
        promise14Damper();
        promise15Was();
        promise16Bell();
        checks.end();
    }

    private static KilnYard withRamps(int count) {
        KilnYard yard = new KilnYard();
        for (int ramp = 0; ramp < count; ramp++) {
            yard.ramp(50, 500, 5);
        }
        return yard;
    }

    /** Promise 10: "a RATE (10 to 200)", "IllegalArgumentException if rate is not 10 to 200". */
    private static void promise10Rate() {
        KilnYard least = Scenes.lit(10, 1400, 0);
        least.burn(1);
        checks.same("HEAT by RATE 10", least.kiln(0), 30.0);
        KilnYard most = Scenes.lit(200, 1400, 0);
        most.burn(1);
        checks.same("HEAT by RATE 200", most.kiln(0), 110.0);
        for (int rate : Twins.outside(10, 200)) {
            twins.badArgument("ramp of rate " + rate, () -> withRamps(1), yard -> yard.ramp(rate, 500, 5));
        }
    }

    /** Promise 10: "a TARGET (100 to 1400)", "IllegalArgumentException if .. target not 100 to 1400". */
    private static void promise10Target() {
        KilnYard least = Scenes.lit(200, 100, 0);
        least.burn(1);
        checks.same("HEAT at TARGET 100", least.kiln(0), 100.0);
        KilnYard most = Scenes.lit(200, 1400, 20);
        most.burn(60);
        checks.same("HEAT at TARGET 1400", most.kiln(0), 1400.0);
        checks.same("still LIT", most.many(2), 1);
        for (int target : Twins.outside(100, 1400)) {
            twins.badArgument("ramp to target " + target, () -> withRamps(1), yard -> yard.ramp(50, target, 5));
        }
    }

    /** Promise 10: "a HOLD (0 to 20)", "IllegalArgumentException if .. hold not 0 to 20". */
    private static void promise10Hold() {
        checks.same("STEPS with a HOLD of 0", Scenes.lit(80, 100, 0).wouldEnd(), 2);
        checks.same("STEPS with a HOLD of 20", Scenes.lit(80, 100, 20).wouldEnd(), 22);
        for (int hold : Twins.outside(0, 20)) {
            twins.badArgument("ramp of hold " + hold, () -> withRamps(1), yard -> yard.ramp(50, 500, hold));
        }
    }

    /** Promise 10: "a row of at most 5 RAMPS, numbered from 0", "IllegalStateException if .. there are 5". */
    private static void promise10AtMost5() {
        KilnYard yard = new KilnYard();
        for (int ramp = 0; ramp < 5; ramp++) {
            checks.same("ramp", yard.ramp(50, 500, 5), ramp);
        }
        checks.same("RAMPS", yard.many(5), 5);
        twins.badState("a sixth ramp", () -> withRamps(5), it -> it.ramp(50, 500, 5));
    }

    /** Promise 10: "IllegalStateException if the kiln is LIT": in its last STEP still, and not a STEP on. */
    private static void promise10Lit() {
        twins.badState("ramp just LIT", () -> Scenes.litAfter(0), yard -> yard.ramp(50, 500, 5));
        twins.badState("ramp in the last STEP", () -> Scenes.litAfter(1), yard -> yard.ramp(50, 500, 5));
        checks.same("ramp as it has gone out", Scenes.litAfter(2).ramp(50, 500, 5), 1);
    }

    /** Promise 10: "If several exceptions apply, the one that is named first is thrown." */
    private static void promise10Order() {
        twins.badArgument("ramp of rate 9 as it is LIT", () -> Scenes.litAfter(0), yard -> yard.ramp(9, 500, 5));
        twins.badArgument("ramp to target 1401 as it is LIT", () -> Scenes.litAfter(0), yard -> yard.ramp(50, 1401, 5));
        twins.badArgument("a sixth ramp of hold 21", () -> withRamps(5), yard -> yard.ramp(50, 500, 21));
        twins.badState("a sixth ramp as it is LIT", () -> {
            KilnYard yard = withRamps(5);
            yard.light();
            return yard;
        }, yard -> yard.ramp(50, 500, 5));
    }

    /** Promise 11: "Forgets all RAMPS.", none and as many as can be: "Returns how many there were." */
    private static void promise11Forget() {
        for (int ramps : new int[] {0, 1, 5}) {
            KilnYard yard = withRamps(ramps);
            checks.same("forget " + ramps, yard.forget(), ramps);
            checks.same("RAMPS then", yard.many(5), 0);
            checks.same("forget again", yard.forget(), 0);
            checks.same("the first ramp then", yard.ramp(200, 100, 0), 0);
            yard.light();
            checks.same("STEPS of that alone", yard.wouldEnd(), 2);
        }
    }

    /** Promise 11: "IllegalStateException if the kiln is LIT". */
    private static void promise11Lit() {
        twins.badState("forget just LIT", () -> Scenes.litAfter(0), KilnYard::forget);
        twins.badState("forget in the last STEP", () -> Scenes.litAfter(1), KilnYard::forget);
        checks.same("forget as it has gone out", Scenes.litAfter(2).forget(), 1);
    }

    /** Promise 12: "IllegalStateException if .. there is no RAMP". */
    private static void promise12NoRamp() {
        twins.badState("light a new kiln", KilnYard::new, KilnYard::light);
        twins.badState("light as all is forgotten", () -> {
            KilnYard yard = withRamps(5);
            yard.forget();
            return yard;
        }, KilnYard::light);
        checks.same("light with one ramp", withRamps(1).light(), 0);
    }

    /** Promise 12: "only if it is not LIT", "IllegalStateException if it is LIT". */
    private static void promise12Lit() {
        twins.badState("light just LIT", () -> Scenes.litAfter(0), KilnYard::light);
        twins.badState("light in the last STEP", () -> Scenes.litAfter(1), KilnYard::light);
        checks.same("light as it has gone out", Scenes.litAfter(2).light(), 0);
        KilnYard hot = new KilnYard();
        Scenes.coolFrom(hot, 1400, 1, 0);
        checks.same("light at more than 100.0", hot.light(), 0);
        checks.same("HEAT", hot.kiln(0), 1227.5);
    }

    /** Promise 12: "it is LIT, at the RAMP 0, HELD is 0", also behind a program that was left at another. */
    private static void promise12FromRamp0() {
        KilnYard yard = new KilnYard();
        yard.ramp(200, 650, 0);
        yard.ramp(200, 650, 3);
        yard.ramp(200, 700, 0);
        yard.light();
        checks.same("RAMP just LIT", yard.many(3), 0);
        checks.same("HELD just LIT", yard.many(4), 0);
        while (yard.many(4) != 3) {
            yard.burn(1);
        }
        checks.same("RAMP", yard.many(3), 1);
        yard.door(true);
        yard.burn(1);
        checks.same("a STALL at RAMP 2", yard.many(11), 1);
        checks.same("HEAT", yard.kiln(0), 650.0);
        yard.light();
        checks.same("LIT again", yard.many(2), 1);
        checks.same("RAMP again", yard.many(3), 0);
        checks.same("HELD again", yard.many(4), 0);
    }

    /** Promise 12: "Returns how many POTS are on the shelves.": none, and all 14. */
    private static void promise12HowMany() {
        KilnYard yard = Scenes.furnished();
        yard.ramp(200, 130, 0);
        for (int pot = 0; pot < 14; pot++) {
            yard.pot(0, 1, 1, 1);
        }
        checks.same("light with none", yard.light(), 0);
        yard.burn(6);
        yard.set(0, 2, 9);
        checks.same("light with one", yard.light(), 1);
        yard.burn(6);
        for (int pot = 1; pot < 14; pot++) {
            yard.set(pot, pot / 10, pot % 10);
        }
        checks.same("BROKEN", yard.many(8), 1);
        checks.same("light with 14, one BROKEN", yard.light(), 14);
    }

    /** Promise 14: "the DAMPER is 0 to 4", "IllegalArgumentException if damper is not 0 to 4". */
    private static void promise14Damper() {
        KilnYard yard = new KilnYard();
        checks.same("damper 0", yard.damper(0), 0);
        checks.same("damper 4", yard.damper(4), 0);
        checks.same("damper 0 again", yard.damper(0), 4);
        for (int damper : Twins.outside(0, 4)) {
            twins.badArgument("damper " + damper, () -> {
                KilnYard told = Scenes.withPotOnShelf(1, 1);
                told.damper(3);
                return told;
            }, it -> it.damper(damper));
        }
        KilnYard lit = Scenes.litAfter(0);
        checks.same("damper of a LIT kiln", lit.damper(3), 0);
    }

    /** Promise 15: "Returns whether it was.", also of what it is already, the kiln LIT or not. */
    private static void promise15Was() {
        for (KilnYard yard : new KilnYard[] {new KilnYard(), Scenes.litAfter(1)}) {
            checks.same("shut what is shut", yard.door(false), false);
            checks.same("open", yard.door(true), false);
            checks.same("open what is open", yard.door(true), true);
            checks.same("it is open", yard.many(15), 1);
            checks.same("shut", yard.door(false), true);
            checks.same("it is shut", yard.many(15), 0);
        }
    }

    /** Promise 16: "who rings it holds nothing, and is REFUSED, the DOOR open or shut", "with this". */
    private static void promise16Bell() {
        KilnYard yard = Scenes.litAfter(0);
        checks.same("the first", yard.bell(), 1);
        checks.same("the DOOR shut", yard.many(15), 0);
        yard.door(true);
        checks.same("the DOOR open", yard.bell(), 2);
        checks.same("it stays open", yard.many(15), 1);
        yard.burn(60);
        checks.same("the kiln not LIT", yard.bell(), 3);
        checks.same("REFUSED", yard.many(14), 3);
        KilnYard rung = Scenes.withAllStates();
        KilnYard other = Scenes.withAllStates();
        rung.bell();
        for (int what = 0; what < 16; what++) {
            checks.same("many " + what, rung.many(what), what == 14 ? 1 : other.many(what));
        }
    }
}
