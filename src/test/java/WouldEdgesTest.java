import java.math.BigInteger;
import java.util.ArrayList;
import java.util.List;

/**
 * Promises 26 to 30, sentence by sentence: the boundary cases of what would be.
 * The remark on each test names its promise and quotes the sentence that it holds.
 */
final class WouldEdgesTest {
    private static final Checks checks = new Checks();
    private static final Twins twins = new Twins(checks);

    public static void main(String[] args) {
        promise26Shelf();
        promise26Steps();
        promise26FirstNamed();
        promise26BehindThese();
        promise26TheSixtieth();
        promise26Unlit();
        promise26Stall();
        promise26NothingChanged();
        promise27Unlit();
        promise27LastStep();
        promise27Stall();
        promise27NotBehind300();
        promise27NothingChanged();
        promise28Clay();
        promise28Cone();
        promise28FirstNamed();
        promise28Dull();
        promise28Run();
        promise28Crazed();
        promise28Shivered();
        promise28TopPlaysNoPart();
        promise28Nearest();
        promise28SmallestNumber();
        promise28None();
        promise28NothingChanged();
        promise29Shelf();
        promise29NoPots();
        promise29LongestRow();
        promise29FullShelf();
        promise29GreatestSum();
        promise29States();
        promise29OnNoShelf();
        promise29Higher();
        promise29EachOnce();
        promise29LitOrHot();
        promise29NothingChanged();
        promise30NewYard();
        promise30Cut();
        promise30WrapsAround();
        promise30ConeOf20();
        promise30NothingChanged();
        checks.end();
    }

    // ---- wouldCone

    /** A lit kiln that comes to 1400.0 and holds there. */
    private static KilnYard litHigh() {
        KilnYard yard = new KilnYard();
        yard.ramp(200, 1400, 20);
        yard.light();
        return yard;
    }

    /** Promise 26: "IndexOutOfBoundsException if shelf is not 0 to 2". */
    private static void promise26Shelf() {
        for (int shelf : Twins.outside(0, 2)) {
            twins.outOfBounds("wouldCone of shelf " + shelf, WouldEdgesTest::litHigh, yard -> yard.wouldCone(shelf, 1));
        }
        // Once at 712.0 shelf 0 has 0.0 of work, shelf 1 0.375 and shelf 2 0.625; 20 times that is held.
        KilnYard yard = new KilnYard();
        yard.ramp(200, 700, 0);
        yard.ramp(12, 712, 20);
        yard.light();
        Scenes.burnOn(yard, yard.wouldEnd() - 22);
        checks.same("HEAT", yard.kiln(0), 700.0);
        checks.same("CONE of shelf 0", yard.wouldCone(0, 21), 0);
        checks.same("CONE of shelf 1, 21 times 0.375", yard.wouldCone(1, 21), 0);
        checks.same("CONE of shelf 2, 0.25 and 21 times 0.625", yard.wouldCone(2, 21), 1);
    }

    /** Promise 26: "IllegalArgumentException if steps is not 1 to 60". */
    private static void promise26Steps() {
        checks.same("wouldCone of 1", litHigh().wouldCone(0, 1), 0);
        checks.same("wouldCone of 60", litHigh().wouldCone(0, 60), 12);
        for (int steps : Twins.outside(1, 60)) {
            twins.badArgument("wouldCone of " + steps, WouldEdgesTest::litHigh, yard -> yard.wouldCone(2, steps));
        }
    }

    /** Promise 26: "If several exceptions apply, the one that is named first is thrown." */
    private static void promise26FirstNamed() {
        twins.outOfBounds("wouldCone of shelf 3 and 0", WouldEdgesTest::litHigh, yard -> yard.wouldCone(3, 0));
        twins.outOfBounds("wouldCone of shelf -1 and 61", KilnYard::new, yard -> yard.wouldCone(-1, 61));
    }

    /** Promise 26: "Returns the CONE that it would have behind these.", for each number of STEPS and each shelf. */
    private static void promise26BehindThese() {
        KilnYard asked = litHigh();
        KilnYard burnt = litHigh();
        for (int steps = 1; steps <= 60; steps++) {
            burnt.burn(1);
            for (int shelf = 0; shelf < 3; shelf++) {
                checks.same("CONE of shelf " + shelf + " behind " + steps, asked.wouldCone(shelf, steps),
                        burnt.ofShelf(shelf, 0));
            }
        }
    }

    /** Promise 26: 8.0 of WORK is come to in just the sixtieth STEP, behind 59 there is 1.0 less. */
    private static void promise26TheSixtieth() {
        KilnYard yard = new KilnYard();
        yard.ramp(13, 700, 0);
        yard.ramp(200, 732, 20);
        yard.light();
        // 53 steps to 700.0, and then each is 1.0: the eighth is the 61st.
        checks.same("CONE behind 60 of 61", yard.wouldCone(1, 60), 0);
        yard.burn(1);
        checks.same("CONE behind 59 of 60", yard.wouldCone(1, 59), 0);
        checks.same("CONE behind 60 of 60", yard.wouldCone(1, 60), 1);
        yard.burn(59);
        checks.same("WORK", yard.kiln(4), 7.0);
        checks.same("CONE behind 1", yard.wouldCone(1, 1), 1);
        yard.burn(1);
        checks.same("WORK", yard.kiln(4), 8.0);
    }

    /** Promise 26: a kiln that is not LIT keeps its CONE, and one that cools from above 700.0 still adds WORK. */
    private static void promise26Unlit() {
        checks.same("CONE of a new kiln", new KilnYard().wouldCone(1, 60), 0);
        KilnYard cold = new KilnYard();
        Scenes.addWork(cold, 16 * 32);
        checks.same("CONE as it is", cold.wouldCone(1, 60), 2);
        KilnYard hot = new KilnYard();
        Scenes.addWork(hot, 382);
        hot.forget();
        hot.ramp(200, 680, 0);
        hot.ramp(30, 916, 0);
        hot.light();
        Scenes.burnOn(hot, hot.wouldEnd());
        checks.same("LIT", hot.many(2), 0);
        checks.same("HEAT", hot.kiln(0), 804.0);
        checks.same("WORK", hot.kiln(4), 43.8125);
        // A step on it is at 706.0: 0.1875 more. With the door open it is at 412.0.
        checks.same("CONE now", hot.ofShelf(1, 0), 3);
        checks.same("CONE as it cools", hot.wouldCone(1, 1), 4);
        hot.door(true);
        checks.same("CONE as it cools with the DOOR open", hot.wouldCone(1, 1), 3);
    }

    /** At 732.0 behind 7.0 of work, with a ramp to come to which it has too little to give. */
    private static KilnYard beforeStall() {
        KilnYard yard = new KilnYard();
        Scenes.addWork(yard, 6 * 32);
        yard.forget();
        yard.ramp(200, 700, 0);
        yard.ramp(200, 732, 0);
        yard.ramp(200, 1400, 0);
        yard.light();
        while (yard.kiln(0) != 732.0) {
            yard.burn(1);
        }
        yard.door(true);
        return yard;
    }

    /** Promise 26: a STALL stays at its HEAT for that STEP, and adds WORK in it. */
    private static void promise26Stall() {
        KilnYard yard = beforeStall();
        checks.same("WORK", yard.kiln(4), 7.0);
        checks.same("CONE behind a STALL", yard.wouldCone(1, 1), 1);
        checks.same("STALLS of what would be", yard.many(11), 0);
        yard.burn(1);
        checks.same("STALLS", yard.many(11), 1);
        checks.same("WORK", yard.kiln(4), 8.0);
    }

    /** Promise 26: "---- what would be (nothing is changed)". */
    private static void promise26NothingChanged() {
        twins.unchanged("wouldCone of a LIT kiln", WouldEdgesTest::litHigh, yard -> yard.wouldCone(2, 60));
        twins.unchanged("wouldCone before a STALL", WouldEdgesTest::beforeStall, yard -> yard.wouldCone(0, 60));
        twins.unchanged("wouldCone with pots on a shelf", () -> litWithPots(3), yard -> yard.wouldCone(1, 60));
    }

    /** So many wet pots on shelf 1, which are whole still, and the damper at 4. */
    private static KilnYard litWithPots(int count) {
        KilnYard yard = Scenes.furnished();
        for (int pot = 0; pot < count; pot++) {
            yard.pot(0, 1, 1, 1);
            yard.set(pot, 1, pot);
        }
        yard.damper(4);
        yard.ramp(200, 1200, 2);
        yard.light();
        return yard;
    }

    // ---- wouldEnd

    /** Promise 27: "(0, if it is not)". */
    private static void promise27Unlit() {
        KilnYard yard = new KilnYard();
        checks.same("wouldEnd of a new kiln", yard.wouldEnd(), 0);
        yard.ramp(80, 100, 0);
        checks.same("wouldEnd of one with a ramp", yard.wouldEnd(), 0);
        yard.light();
        yard.burn(2);
        checks.same("LIT", yard.many(2), 0);
        checks.same("wouldEnd of one that has gone out", yard.wouldEnd(), 0);
    }

    /** Promise 27: "behind how many STEPS it would not be LIT any more": 1 in the last STEP in which it is. */
    private static void promise27LastStep() {
        KilnYard yard = new KilnYard();
        yard.ramp(80, 100, 0);
        yard.light();
        checks.same("two STEPS before", yard.wouldEnd(), 2);
        yard.burn(1);
        checks.same("LIT", yard.many(2), 1);
        checks.same("a STEP before", yard.wouldEnd(), 1);
        checks.same("LIT then", yard.burn(1), false);
    }

    /** Promise 27: "it would not be LIT any more", by a STALL. */
    private static void promise27Stall() {
        checks.same("wouldEnd before a STALL", beforeStall().wouldEnd(), 1);
        KilnYard yard = litHigh();
        yard.door(true);
        int would = yard.wouldEnd();
        Scenes.burnOn(yard, would - 1);
        checks.same("LIT", yard.many(2), 1);
        checks.same("STALLS", yard.many(11), 0);
        checks.same("LIT then", yard.burn(1), false);
        checks.same("STALLS then", yard.many(11), 1);
    }

    /** Lit for a program of 299 steps and that hold. */
    private static KilnYard litFor299And(int hold) {
        KilnYard yard = new KilnYard();
        // 98 up, 50 down, 40 up, 30 down, 20 held behind each, and a step to go out.
        yard.ramp(10, 1000, 20);
        yard.ramp(10, 500, 20);
        yard.ramp(10, 900, 20);
        yard.ramp(10, 600, 20);
        yard.ramp(10, 600, hold);
        yard.light();
        return yard;
    }

    /** Promise 27: "NONE, if not behind 300." */
    private static void promise27NotBehind300() {
        checks.same("wouldEnd of 299", litFor299And(0).wouldEnd(), 299);
        checks.same("wouldEnd of 300", litFor299And(1).wouldEnd(), 300);
        checks.same("wouldEnd of 301", litFor299And(2).wouldEnd(), -1);
        checks.same("wouldEnd of 319", litFor299And(20).wouldEnd(), -1);
        KilnYard yard = litFor299And(2);
        yard.burn(1);
        checks.same("wouldEnd of 300 left", yard.wouldEnd(), 300);
        Scenes.burnOn(yard, 299);
        checks.same("LIT behind 299 of them", yard.many(2), 1);
        checks.same("wouldEnd of 1 left", yard.wouldEnd(), 1);
        checks.same("LIT behind 300 of them", yard.burn(1), false);
    }

    /** Promise 27: "---- what would be (nothing is changed)". */
    private static void promise27NothingChanged() {
        twins.unchanged("wouldEnd of a new kiln", KilnYard::new, KilnYard::wouldEnd);
        twins.unchanged("wouldEnd of 301", () -> litFor299And(2), KilnYard::wouldEnd);
        twins.unchanged("wouldEnd before a STALL", WouldEdgesTest::beforeStall, KilnYard::wouldEnd);
        twins.unchanged("wouldEnd with pots on a shelf", () -> litWithPots(3), KilnYard::wouldEnd);
    }

    // ---- best

    /** Promise 28: "IndexOutOfBoundsException if there is no such CLAY". */
    private static void promise28Clay() {
        for (int clay : Twins.outside(0, 1)) {
            twins.outOfBounds("best on clay " + clay, Scenes::furnished, yard -> yard.best(clay, 2));
        }
        twins.outOfBounds("best on clay 3 of 3", Scenes::full, yard -> yard.best(3, 2));
        twins.outOfBounds("best on clay 0 of none", KilnYard::new, yard -> yard.best(0, 2));
        KilnYard yard = Scenes.full();
        checks.same("best on the first clay", yard.best(0, 2), 0);
        checks.same("best on the last clay", yard.best(2, 2), 0);
    }

    /** Promise 28: "IllegalArgumentException if cone is not 1 to 12". */
    private static void promise28Cone() {
        for (int cone : Twins.outside(1, 12)) {
            twins.badArgument("best with cone " + cone, Scenes::furnished, yard -> yard.best(0, cone));
        }
        KilnYard yard = new KilnYard();
        yard.clay(6, 16);
        // Melts 0 and 12; growths 4.0, and 137.0 / 63.0.
        yard.glaze(0, 1, 0, 0, 0);
        yard.glaze(2, 0, 60, 1, 0);
        checks.same("best with cone 1", yard.best(0, 1), 0);
        checks.same("best with cone 12", yard.best(0, 12), 1);
    }

    /** Promise 28: "If several exceptions apply, the one that is named first is thrown." */
    private static void promise28FirstNamed() {
        twins.outOfBounds("best on no clay with cone 0", Scenes::furnished, yard -> yard.best(2, 0));
        twins.outOfBounds("best on no clay with cone 13", KilnYard::new, yard -> yard.best(-1, 13));
    }

    /** A clay of that many quarters and a glaze (soda, lime, alumina, silica). */
    private static KilnYard with(int quarters, int soda, int lime, int alumina, int silica) {
        KilnYard yard = new KilnYard();
        yard.clay(12, quarters);
        yard.glaze(soda, lime, alumina, silica, 0);
        return yard;
    }

    /** Promise 28: "neither be DULL": not with a CONE below MELTS. */
    private static void promise28Dull() {
        KilnYard two = with(12, 1, 1, 2, 1);
        checks.same("MELTS", two.ofGlaze(0, 2), 2.0);
        checks.same("with the cone below MELTS", two.best(0, 1), -1);
        checks.same("with the cone of MELTS", two.best(0, 2), 0);
        KilnYard twelve = with(12, 4, 4, 60, 0);
        checks.same("MELTS", twelve.ofGlaze(0, 2), 11.0);
        checks.same("with cone 10", twelve.best(0, 10), -1);
        checks.same("with cone 11", twelve.best(0, 11), 0);
        checks.same("with cone 12", twelve.best(0, 12), 0);
    }

    /** Promise 28: "nor .. RUN": not with a CONE above MELTS by more than 2. */
    private static void promise28Run() {
        KilnYard two = with(12, 1, 1, 2, 1);
        checks.same("above MELTS by 2", two.best(0, 4), 0);
        checks.same("above MELTS by 3", two.best(0, 5), -1);
        KilnYard none = with(12, 0, 1, 0, 0);
        checks.same("MELTS", none.ofGlaze(0, 2), 0.0);
        checks.same("above MELTS of 0 by 2", none.best(0, 2), 0);
        checks.same("above MELTS of 0 by 3", none.best(0, 3), -1);
    }

    /** Promise 28: "nor .. CRAZED": not with a GROWTH above that of the CLAY by more than 2.0, the CLAY's being 2.0. */
    private static void promise28Crazed() {
        checks.same("above by 2.0 less 1 / 220", with(8, 60, 60, 59, 41).best(0, 1), 0);
        checks.same("above by 2.0", with(8, 0, 1, 0, 0).best(0, 1), 0);
        checks.same("above by 2.0 and 1 / 219", with(8, 60, 60, 58, 41).best(0, 1), -1);
    }

    /** Promise 28: "nor SHIVERED": not with a GROWTH below that of the CLAY by more than 2.0, the CLAY's being 6.0. */
    private static void promise28Shivered() {
        checks.same("below by 2.0 less 1 / 219", with(24, 60, 60, 58, 41).best(0, 1), 0);
        checks.same("below by 2.0", with(24, 0, 1, 0, 0).best(0, 1), 0);
        checks.same("below by 2.0 and 1 / 220", with(24, 60, 60, 59, 41).best(0, 1), -1);
    }

    /** Promise 28: "(TOP plays no part)". */
    private static void promise28TopPlaysNoPart() {
        for (int top : new int[] {1, 12}) {
            KilnYard yard = new KilnYard();
            yard.clay(top, 12);
            yard.glaze(4, 4, 60, 0, 0);
            checks.same("with cone 12 and a TOP of " + top, yard.best(0, 12), 0);
        }
    }

    /** Promise 28: "of several that whose GROWTH is nearest to that of the CLAY", from above and from below. */
    private static void promise28Nearest() {
        KilnYard yard = new KilnYard();
        yard.clay(12, 16);
        // All of melts 1: growths 4 - 1 / 220, 4 + 1 / 219, and 4 - 1 / 220 again.
        yard.glaze(60, 60, 58, 41, 0);
        checks.same("of one", yard.best(0, 1), 0);
        yard.glaze(60, 60, 59, 41, 0);
        checks.same("nearer by little, from below", yard.best(0, 1), 1);
        yard.glaze(60, 60, 58, 41, 0);
        checks.same("not the last", yard.best(0, 1), 1);
        yard.glaze(0, 1, 0, 0, 0);
        checks.same("just that", yard.best(0, 1), 3);
        KilnYard above = new KilnYard();
        above.clay(12, 16);
        // Growths 3.0 and 4.5, of melts 2 and 0: with cone 2 both, with cone 3 the first alone.
        above.glaze(1, 1, 2, 2, 0);
        above.glaze(1, 7, 0, 0, 0);
        checks.same("nearer from above", above.best(0, 2), 1);
        checks.same("not one that has RUN", above.best(0, 3), 0);
    }

    /** Promise 28: "of several the smallest number". */
    private static void promise28SmallestNumber() {
        KilnYard yard = new KilnYard();
        yard.clay(12, 20);
        // Growths 8.0, 6.0, 4.0 and 6.0.
        yard.glaze(1, 0, 0, 0, 0);
        yard.glaze(1, 1, 0, 0, 0);
        yard.glaze(0, 1, 0, 0, 0);
        yard.glaze(2, 2, 0, 0, 0);
        checks.same("of three by 1.0", yard.best(0, 1), 1);
        KilnYard below = new KilnYard();
        below.clay(12, 20);
        below.glaze(0, 1, 0, 0, 0);
        below.glaze(1, 1, 0, 0, 0);
        checks.same("of two by 1.0, the first from below", below.best(0, 1), 0);
    }

    /** Promise 28: "NONE without one." */
    private static void promise28None() {
        KilnYard bare = new KilnYard();
        bare.clay(12, 12);
        checks.same("without a glaze", bare.best(0, 1), -1);
        KilnYard unfit = with(40, 0, 1, 0, 0);
        for (int cone = 1; cone <= 12; cone++) {
            checks.same("without one that fits", unfit.best(0, cone), -1);
        }
    }

    /** Promise 28: "---- what would be (nothing is changed)". */
    private static void promise28NothingChanged() {
        twins.unchanged("best", Scenes::withAllStates, yard -> yard.best(0, 2));
        twins.unchanged("best without one", Scenes::full, yard -> yard.best(2, 12));
    }

    // ---- wouldHold

    /** A furnished yard with dry pots of these widths, 1 high, on no shelf. */
    private static KilnYard withDry(int... widths) {
        KilnYard yard = Scenes.furnished();
        for (int width : widths) {
            yard.pot(0, width, 1, 1);
        }
        yard.dry(8, 2);
        return yard;
    }

    /** Promise 29: "IndexOutOfBoundsException if shelf is not 0 to 2". */
    private static void promise29Shelf() {
        for (int shelf : Twins.outside(0, 2)) {
            twins.outOfBounds("wouldHold of shelf " + shelf, () -> withDry(1), yard -> yard.wouldHold(shelf));
        }
        for (int shelf = 0; shelf < 3; shelf++) {
            checks.same("wouldHold of shelf " + shelf, withDry(3).wouldHold(shelf), 3);
        }
    }

    /** Promise 29: the greatest sum of no POTS is 0. */
    private static void promise29NoPots() {
        checks.same("without pots", new KilnYard().wouldHold(0), 0);
        KilnYard wet = Scenes.furnished();
        wet.pot(0, 5, 1, 1);
        checks.same("without dry ones", wet.wouldHold(0), 0);
    }

    /** Promise 29: "that could stand side by side in its longest row of free CELLS": of 10, 4, 3, 2 and 1. */
    private static void promise29LongestRow() {
        checks.same("4 and 5 of 10", withDry(4, 5).wouldHold(1), 9);
        checks.same("5 and 5 of 10", withDry(5, 5).wouldHold(1), 10);
        checks.same("5, 5 and 1 of 10", withDry(5, 5, 1).wouldHold(1), 10);
        checks.same("a row of 4", heldBeside(4, 9), 4);
        checks.same("a row of 3", heldBeside(3, 7), 3);
        checks.same("a row of 2", heldBeside(2, 5, 8), 2);
        checks.same("a row of 1", heldBeside(1, 3, 5, 7, 9), 0);
        KilnYard wide = withDry(1, 5);
        wide.set(0, 1, 4);
        checks.same("5 in a row of 5", wide.wouldHold(1), 5);
        wide.take(0);
        wide.set(0, 1, 5);
        checks.same("5 in the other row of 5", wide.wouldHold(1), 5);
        KilnYard two = withDry(1, 1, 5);
        two.set(0, 1, 4);
        two.set(1, 1, 9);
        checks.same("5 in no row of 4", two.wouldHold(1), 0);
    }

    /** What of pots 2 to 5 wide, one of each, shelf 1 would hold with these cells taken. */
    private static int heldBeside(int... cells) {
        KilnYard yard = Scenes.furnished();
        for (int pot = 0; pot < cells.length; pot++) {
            yard.pot(0, 1, 1, 1);
            yard.set(pot, 1, cells[pot]);
        }
        for (int width = 2; width <= 5; width++) {
            yard.pot(0, width, 1, 1);
        }
        yard.dry(8, 2);
        return yard.wouldHold(1);
    }

    /** Promise 29: of a full shelf there is no row, and the sum is 0. */
    private static void promise29FullShelf() {
        KilnYard yard = withDry(5, 5, 1);
        yard.set(0, 0, 0);
        yard.set(1, 0, 5);
        checks.same("a full shelf", yard.wouldHold(0), 0);
        checks.same("an empty one", yard.wouldHold(1), 1);
    }

    /** Promise 29: "the greatest sum of WIDTHS", not what the first or the widest ones come to. */
    private static void promise29GreatestSum() {
        checks.same("4, 3, 3 and 3", withDry(4, 3, 3, 3).wouldHold(0), 10);
        checks.same("4, 4, 3 and 3", withDry(4, 4, 3, 3).wouldHold(0), 10);
        checks.same("4 and 4 and 4", withDry(4, 4, 4).wouldHold(0), 8);
        checks.same("3 and 3 and 3 and 3", withDry(3, 3, 3, 3).wouldHold(0), 9);
        checks.same("5, 3, 3 and 3", withDry(5, 3, 3, 3).wouldHold(0), 9);
        KilnYard row = withDry(1, 4, 3, 3);
        row.set(0, 0, 3);
        checks.same("4, 3 and 3 in a row of 6", row.wouldHold(0), 6);
    }

    /** Promise 29: "of those that are DRY or GLAZED", of pots of all seven states. */
    private static void promise29States() {
        KilnYard yard = Scenes.withAllStates();
        for (int state = 0; state < 7; state++) {
            checks.same("STATE", yard.ofPot(state, 0), state);
        }
        checks.same("one DRY, one GLAZED", yard.wouldHold(0), 2);
        yard.set(1, 1, 0);
        checks.same("the GLAZED one alone", yard.wouldHold(0), 1);
        yard.set(3, 1, 1);
        checks.same("neither", yard.wouldHold(0), 0);
        yard.take(1);
        checks.same("the DRY one alone", yard.wouldHold(0), 1);
    }

    /** Promise 29: "on no shelf": neither on this one nor on another. */
    private static void promise29OnNoShelf() {
        KilnYard yard = withDry(2, 3);
        checks.same("both", yard.wouldHold(0), 5);
        yard.set(0, 0, 0);
        checks.same("one is on this one", yard.wouldHold(0), 3);
        yard.take(0);
        yard.set(0, 2, 0);
        checks.same("one is on another", yard.wouldHold(0), 3);
        yard.set(1, 1, 0);
        checks.same("both are on others", yard.wouldHold(0), 0);
    }

    /** Promise 29: "not higher than this one". */
    private static void promise29Higher() {
        KilnYard yard = Scenes.furnished();
        yard.pot(0, 5, 3, 1);
        yard.pot(0, 2, 2, 1);
        yard.pot(0, 1, 1, 1);
        yard.dry(8, 2);
        checks.same("3 high on shelf 0", yard.wouldHold(0), 8);
        checks.same("3 high on shelf 1", yard.wouldHold(1), 8);
        checks.same("2 high on shelf 2, and not 3", yard.wouldHold(2), 3);
    }

    /** Promise 29: "each once", also with as many POTS as can be. */
    private static void promise29EachOnce() {
        checks.same("one of 4", withDry(4).wouldHold(0), 4);
        checks.same("one of 5", withDry(5).wouldHold(0), 5);
        checks.same("14 of 1", withDry(1, 1, 1, 1, 1, 1, 1, 1, 1, 1, 1, 1, 1, 1).wouldHold(0), 10);
        checks.same("9 of 1", withDry(1, 1, 1, 1, 1, 1, 1, 1, 1).wouldHold(0), 9);
        checks.same("14 of 5", withDry(5, 5, 5, 5, 5, 5, 5, 5, 5, 5, 5, 5, 5, 5).wouldHold(0), 10);
        checks.same("14 of 4", withDry(4, 4, 4, 4, 4, 4, 4, 4, 4, 4, 4, 4, 4, 4).wouldHold(0), 8);
    }

    /** Promise 29: "(the kiln LIT or hot alike)". */
    private static void promise29LitOrHot() {
        KilnYard yard = withDry(4, 5);
        Scenes.arriveAt(yard, 900);
        checks.same("LIT", yard.many(2), 1);
        checks.same("wouldHold as it is LIT", yard.wouldHold(0), 9);
        yard.burn(1);
        checks.same("LIT then", yard.many(2), 0);
        checks.same("HEAT then", yard.kiln(0), 790.0);
        checks.same("wouldHold as it is hot", yard.wouldHold(0), 9);
    }

    /** Promise 29: "---- what would be (nothing is changed)". */
    private static void promise29NothingChanged() {
        twins.unchanged("wouldHold", () -> withDry(4, 3, 3, 3), yard -> yard.wouldHold(0));
        twins.unchanged("wouldHold of a new yard", KilnYard::new, yard -> yard.wouldHold(2));
    }

    // ---- digest

    /** Without a bound, and then as a 64-bit integer. */
    private static long digestOf(List<Long> values) {
        BigInteger d = BigInteger.valueOf(58303);
        for (long value : values) {
            d = d.multiply(BigInteger.valueOf(31)).add(BigInteger.valueOf(value));
        }
        return d.longValue();
    }

    private static void add(List<Long> values, long... more) {
        for (long value : more) {
            values.add(value);
        }
    }

    /** Promise 30: "for each v in this order", of a yard without pots and glazes. */
    private static void promise30NewYard() {
        List<Long> values = new ArrayList<>();
        add(values, 0, 0, 0, -1, 0, 0, 0, 0, 0, 0, 0, 0, 0, 0, 0, 0);
        for (int shelf = 0; shelf < 3; shelf++) {
            add(values, 0, 10, 0, 10, 0, 0);
        }
        add(values, 20 * 64, 64, 0);
        checks.same("digest of a new yard", new KilnYard().digest(), digestOf(values));
    }

    /** Promise 30: "(the product cut to a whole number)", "(cut, not 64 times)", "(the products cut)". */
    private static void promise30Cut() {
        KilnYard yard = new KilnYard();
        yard.clay(12, 12);
        // Growth 2.6, 64 times that is 166.4; melts 4.
        yard.glaze(0, 3, 7, 0, 20);
        yard.pot(0, 2, 3, 4);
        yard.cover(0, true);
        yard.dry(3, 1);
        for (int times = 0; times < 2; times++) {
            Scenes.addWork(yard, 1);
            yard.unload();
            yard.burn(60);
        }
        int clock = yard.many(1);
        int fuel = yard.many(10);
        yard.forget();
        yard.ramp(200, 1400, 0);
        yard.ramp(200, 1400, 0);
        yard.light();
        yard.burn(2);
        // 64 times that is 62.015625.
        double power = 63.0 / 64.0 * 63.0 / 64.0;
        checks.same("POWER", yard.kiln(1), power);
        double heat = yard.kiln(0);
        checks.same("64 times HEAT is not whole", heat * 64.0 != Math.floor(heat * 64.0), true);
        List<Long> values = new ArrayList<>();
        add(values, 3, clock + 2, 1, 0, 0, 2, 1, 0, 0, 0, yard.many(10), 0, 0, 0, 0, 0);
        checks.same("FUEL", yard.many(10) > fuel, true);
        // 8.0 less three times 0.0625, times 64.
        add(values, 0, -1, 0, -1, -1, 0, -1, 1, 500);
        add(values, 166, 4);
        for (int shelf = 0; shelf < 3; shelf++) {
            add(values, 0, 10, 0, 10, 0, yard.wouldCone(shelf, 20));
        }
        add(values, (long) Math.floor(heat * 64.0), 62, yard.wouldEnd());
        checks.same("digest", yard.digest(), digestOf(values));
    }

    /** What the digest goes over, as the calls answer it. */
    private static List<Long> valuesOf(KilnYard yard, int pots, int glazes) {
        List<Long> values = new ArrayList<>();
        for (int what = 0; what < 16; what++) {
            add(values, yard.many(what));
        }
        for (int pot = 0; pot < pots; pot++) {
            for (int what = 0; what < 8; what++) {
                add(values, yard.ofPot(pot, what));
            }
            add(values, (long) Math.floor(64.0 * yard.water(pot)));
        }
        for (int glaze = 0; glaze < glazes; glaze++) {
            add(values, (long) Math.floor(64.0 * yard.ofGlaze(glaze, 0)), (long) yard.ofGlaze(glaze, 2));
        }
        for (int shelf = 0; shelf < 3; shelf++) {
            for (int what = 0; what < 4; what++) {
                add(values, yard.ofShelf(shelf, what));
            }
            add(values, yard.wouldHold(shelf), yard.wouldCone(shelf, 20));
        }
        add(values, (long) Math.floor(64.0 * yard.kiln(0)), (long) Math.floor(64.0 * yard.kiln(1)), yard.wouldEnd());
        return values;
    }

    /** Promise 30: "which wraps around as a 64-bit integer", of a yard that holds all that it can. */
    private static void promise30WrapsAround() {
        KilnYard yard = Scenes.full();
        yard.dry(20, 1);
        yard.set(0, 0, 9);
        List<Long> values = valuesOf(yard, 14, 4);
        checks.same("as many as can be", values.size(), 16 + 14 * 9 + 4 * 2 + 3 * 6 + 3);
        checks.same("a shelf would hold some", yard.wouldHold(0) > 0, true);
        checks.same("digest of a full yard", yard.digest(), digestOf(values));
    }

    /** Promise 30: "wouldCone() of 20", where 21 STEPS lead to another CONE than 20, and then 20 to another than 19. */
    private static void promise30ConeOf20() {
        KilnYard yard = litHigh();
        while (yard.wouldCone(1, 20) == yard.wouldCone(1, 21)) {
            yard.burn(1);
        }
        for (int step = 0; step < 3; step++) {
            checks.same("digest", yard.digest(), digestOf(valuesOf(yard, 0, 0)));
            yard.burn(1);
        }
    }

    /** Promise 30: "---- what would be (nothing is changed)". */
    private static void promise30NothingChanged() {
        twins.unchanged("digest of a new yard", KilnYard::new, KilnYard::digest);
        twins.unchanged("digest of all states", Scenes::withAllStates, KilnYard::digest);
        twins.unchanged("digest of a full yard", Scenes::full, KilnYard::digest);
        twins.unchanged("digest of a LIT kiln", () -> litWithPots(3), KilnYard::digest);
        KilnYard yard = Scenes.full();
        checks.same("digest again", yard.digest(), yard.digest());
    }
}
