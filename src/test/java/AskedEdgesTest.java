/**
 * Promises 20 to 25, sentence by sentence: the boundary cases of what is asked.
 * The remark on each test names its promise and quotes the sentence that it holds.
 */
final class AskedEdgesTest {
    private static final Checks checks = new Checks();
    private static final Twins twins = new Twins(checks);

    public static void main(String[] args) {
        promise20Pot();
        promise20What();
        promise20FirstNamed();
        promise20None();
        promise20ColourOfState();
        promise20ColourByIron();
        promise20ColourBySmoke();
        promise20SmokeNeverLess();
        promise21Pot();
        promise21Water();
        promise22Glaze();
        promise22What();
        promise22FirstNamed();
        promise22WithoutAlumina();
        promise22MeltsAsDouble();
        promise23What();
        promise23Gives();
        promise24Shelf();
        promise24What();
        promise24FirstNamed();
        promise24Cone();
        promise24Free();
        promise24Longest();
        promise25What();
        promise25RampAndHeld();
        promise25Empty();
        promise25Full();
        promise25Counts();
        checks.end();
    }

    private static KilnYard withPots(int count) {
        KilnYard yard = Scenes.furnished();
        for (int pot = 0; pot < count; pot++) {
            yard.pot(0, 1, 1, 1);
        }
        return yard;
    }

    // ---- ofPot, water

    /** Promise 20: "IndexOutOfBoundsException if there is no such POT". */
    private static void promise20Pot() {
        for (int pots : new int[] {0, 1, 14}) {
            for (int pot : Twins.outside(0, pots - 1)) {
                twins.outOfBounds("ofPot " + pot + " of " + pots, () -> withPots(pots), yard -> yard.ofPot(pot, 0));
            }
        }
        KilnYard yard = withPots(14);
        yard.cover(0, true);
        yard.cover(13, true);
        checks.same("of the first pot", yard.ofPot(0, 7), 1);
        checks.same("of the last pot", yard.ofPot(13, 7), 1);
    }

    /** Promise 20: "IllegalArgumentException if what is not 0 to 7"; what is, changes nothing. */
    private static void promise20What() {
        for (int what : Twins.outside(0, 7)) {
            twins.badArgument("ofPot of " + what, Scenes::withAllStates, yard -> yard.ofPot(0, what));
        }
        twins.unchanged("ofPot of 0 to 7", Scenes::withAllStates, yard -> {
            for (int what = 0; what < 8; what++) {
                yard.ofPot(6, what);
            }
        });
        checks.same("of 0", Scenes.withAllStates().ofPot(6, 0), 6);
        checks.same("of 7", Scenes.withAllStates().ofPot(6, 7), 0);
    }

    /** Promise 20: "If several exceptions apply, the one that is named first is thrown." */
    private static void promise20FirstNamed() {
        twins.outOfBounds("ofPot no pot of 8", Scenes::withAllStates, yard -> yard.ofPot(7, 8));
        twins.outOfBounds("ofPot no pot of -1", KilnYard::new, yard -> yard.ofPot(0, -1));
    }

    /** Promise 20: "1 GLAZE", "3 SHELF (NONE), 4 first CELL (NONE)", and what they are with one. */
    private static void promise20None() {
        KilnYard yard = Scenes.withAllStates();
        for (int pot = 0; pot < 7; pot++) {
            boolean isGlazed = pot == 3 || pot == 4 || pot == 6;
            checks.same("GLAZE in state " + pot, yard.ofPot(pot, 1), isGlazed ? Scenes.PALE : -1);
            checks.same("SHELF of none", yard.ofPot(pot, 3), -1);
            checks.same("CELL of none", yard.ofPot(pot, 4), -1);
        }
        yard.set(0, 0, 0);
        yard.set(1, 2, 9);
        checks.same("the first SHELF", yard.ofPot(0, 3), 0);
        checks.same("the first CELL", yard.ofPot(0, 4), 0);
        checks.same("the last SHELF", yard.ofPot(1, 3), 2);
        checks.same("the last CELL", yard.ofPot(1, 4), 9);
    }

    /** Promise 20: "6 COLOUR (NONE, if it is not DONE or SOLD)". */
    private static void promise20ColourOfState() {
        KilnYard yard = Scenes.withAllStates();
        int[] colours = {-1, -1, -1, -1, 0, -1, 0};
        for (int state = 0; state < 7; state++) {
            checks.same("STATE", yard.ofPot(state, 0), state);
            checks.same("COLOUR in state " + state, yard.ofPot(state, 6), colours[state]);
        }
    }

    /** A pot that was glazed with so much iron, smoked in so many steps, and is done. */
    private static KilnYard smoked(int iron, int smoke) {
        KilnYard yard = Scenes.withBisquePots(Scenes.TOUGH, 1);
        int glaze = yard.glaze(1, 1, 2, 1, iron);
        yard.dip(0, glaze);
        yard.set(0, 1, 0);
        Scenes.smoke(yard, smoke);
        yard.unload();
        checks.same("STATE", yard.ofPot(0, 0), 4);
        checks.same("SMOKE", yard.ofPot(0, 5), smoke);
        return yard;
    }

    /** Promise 20: "COLOUR of a DONE POT: with less than 5 IRON 0", smoked or not. */
    private static void promise20ColourByIron() {
        checks.same("COLOUR with IRON 0", smoked(0, 0).ofPot(0, 6), 0);
        checks.same("COLOUR with IRON 4", smoked(4, 0).ofPot(0, 6), 0);
        checks.same("COLOUR with IRON 4 and smoke", smoked(4, 4).ofPot(0, 6), 0);
        checks.same("COLOUR with IRON 5", smoked(5, 0).ofPot(0, 6), 2);
        checks.same("COLOUR with IRON 5 and smoke", smoked(5, 4).ofPot(0, 6), 1);
        checks.same("COLOUR with IRON 60", smoked(60, 0).ofPot(0, 6), 2);
    }

    /** Promise 20: "otherwise 1 with a SMOKE of 4 or more, else 2." */
    private static void promise20ColourBySmoke() {
        checks.same("COLOUR with SMOKE 3", smoked(5, 3).ofPot(0, 6), 2);
        checks.same("COLOUR with SMOKE 4", smoked(5, 4).ofPot(0, 6), 1);
    }

    /** Promise 20: "a SMOKE (0 at first, never less)": it is kept through firings, and counts on. */
    private static void promise20SmokeNeverLess() {
        KilnYard yard = Scenes.withPotOnShelf(1, 1);
        Scenes.smoke(yard, 3);
        yard.unload();
        checks.same("SMOKE of a BISQUE one", yard.ofPot(0, 5), 3);
        yard.dip(0, Scenes.RUSTY);
        checks.same("SMOKE of a GLAZED one", yard.ofPot(0, 5), 3);
        yard.set(0, 1, 0);
        Scenes.smoke(yard, 1);
        checks.same("SMOKE of both firings", yard.ofPot(0, 5), 4);
        yard.unload();
        checks.same("COLOUR by both", yard.ofPot(0, 6), 1);
    }

    /** Promise 21: "IndexOutOfBoundsException if there is no such POT". */
    private static void promise21Pot() {
        for (int pots : new int[] {0, 1, 14}) {
            for (int pot : Twins.outside(0, pots - 1)) {
                twins.outOfBounds("water of " + pot + " of " + pots, () -> withPots(pots), yard -> yard.water(pot));
            }
        }
        twins.unchanged("water", Scenes::withAllStates, yard -> yard.water(6));
    }

    /** Promise 21: "Returns its WATER (as a double).": all that it can be, from the most down to none. */
    private static void promise21Water() {
        KilnYard yard = withPots(14);
        checks.same("WATER of the first", yard.water(0), 8.0);
        checks.same("WATER of the last", yard.water(13), 8.0);
        yard.cover(13, true);
        yard.dry(1, 1);
        checks.same("WATER of the first then", yard.water(0), 7.5);
        checks.same("WATER of the last then", yard.water(13), 7.75);
        yard.dry(20, 8);
        checks.same("WATER of none", yard.water(0), 0.0);
    }

    // ---- ofGlaze

    private static KilnYard withGlazes(int count) {
        KilnYard yard = new KilnYard();
        for (int glaze = 0; glaze < count; glaze++) {
            yard.glaze(1, 0, glaze, 0, 0);
        }
        return yard;
    }

    /** Promise 22: "IndexOutOfBoundsException if there is no such GLAZE". */
    private static void promise22Glaze() {
        for (int glazes : new int[] {0, 1, 4}) {
            for (int glaze : Twins.outside(0, glazes - 1)) {
                twins.outOfBounds("ofGlaze " + glaze + " of " + glazes, () -> withGlazes(glazes),
                        yard -> yard.ofGlaze(glaze, 0));
            }
        }
        checks.same("of the first glaze", withGlazes(4).ofGlaze(0, 0), 8.0);
        checks.same("of the last glaze", withGlazes(4).ofGlaze(3, 0), 3.5);
    }

    /** Promise 22: "IllegalArgumentException if what is not 0 to 2"; what is, changes nothing. */
    private static void promise22What() {
        for (int what : Twins.outside(0, 2)) {
            twins.badArgument("ofGlaze of " + what, () -> withGlazes(4), yard -> yard.ofGlaze(0, what));
        }
        twins.unchanged("ofGlaze of 0 to 2", () -> withGlazes(4), yard -> {
            for (int what = 0; what < 3; what++) {
                yard.ofGlaze(3, what);
            }
        });
    }

    /** Promise 22: "If several exceptions apply, the one that is named first is thrown." */
    private static void promise22FirstNamed() {
        twins.outOfBounds("ofGlaze no glaze of 3", () -> withGlazes(4), yard -> yard.ofGlaze(4, 3));
        twins.outOfBounds("ofGlaze no glaze of -1", KilnYard::new, yard -> yard.ofGlaze(0, -1));
    }

    private static double silicaToAlumina(int alumina, int silica) {
        KilnYard yard = new KilnYard();
        yard.glaze(1, 0, alumina, silica, 0);
        return yard.ofGlaze(0, 1);
    }

    /** Promise 22: "SILICA / ALUMINA (each made double; 99.0 without ALUMINA)". */
    private static void promise22WithoutAlumina() {
        checks.same("without ALUMINA", silicaToAlumina(0, 60), 99.0);
        checks.same("without both", silicaToAlumina(0, 0), 99.0);
        checks.same("without SILICA", silicaToAlumina(1, 0), 0.0);
        checks.same("with the most by the least", silicaToAlumina(1, 60), 60.0);
        checks.same("with the least by the most", silicaToAlumina(60, 1), 1.0 / 60.0);
    }

    /** Promise 22: "2 MELTS as a double": 0 and 12. */
    private static void promise22MeltsAsDouble() {
        KilnYard yard = new KilnYard();
        yard.glaze(60, 60, 0, 0, 60);
        yard.glaze(0, 1, 60, 60, 60);
        checks.same("the least MELTS", yard.ofGlaze(0, 2), 0.0);
        checks.same("the greatest MELTS", yard.ofGlaze(1, 2), 12.0);
    }

    // ---- kiln

    /** Promise 23: "IllegalArgumentException if what is not 0 to 5"; what is, changes nothing. */
    private static void promise23What() {
        for (int what : Twins.outside(0, 5)) {
            twins.badArgument("kiln of " + what, Scenes::withAllStates, yard -> yard.kiln(what));
        }
        twins.unchanged("kiln of 0 to 5", Scenes::withAllStates, yard -> {
            for (int what = 0; what < 6; what++) {
                yard.kiln(what);
            }
        });
        KilnYard yard = new KilnYard();
        Scenes.arriveAt(yard, 713);
        checks.same("of 0", yard.kiln(0), 713.0);
        checks.same("of 1", yard.kiln(1), 1.0);
        checks.same("of 2", yard.kiln(2), 90.0 - 693.0 / 16.0);
        // At 710.0 and 713.0.
        checks.same("of 3", yard.kiln(3), 0.03125);
        checks.same("of 4", yard.kiln(4), 23.0 / 32.0);
        checks.same("of 5", yard.kiln(5), 39.0 / 32.0);
    }

    /** Promise 23: "2 GIVES now (with the DOOR as it is, also if it is not LIT)". */
    private static void promise23Gives() {
        KilnYard yard = new KilnYard();
        checks.same("GIVES not LIT", yard.kiln(2), 90.0);
        yard.door(true);
        checks.same("GIVES not LIT with the DOOR open", yard.kiln(2), 40.0);
        yard.door(false);
        Scenes.arriveAt(yard, 1400);
        checks.same("GIVES at the greatest TARGET", yard.kiln(2), 3.75);
        yard.door(true);
        checks.same("GIVES below 0.0", yard.kiln(2), -46.25);
    }

    // ---- ofShelf

    /** Promise 24: "IndexOutOfBoundsException if shelf is not 0 to 2". */
    private static void promise24Shelf() {
        for (int shelf : Twins.outside(0, 2)) {
            twins.outOfBounds("ofShelf " + shelf, Scenes::withAllStates, yard -> yard.ofShelf(shelf, 0));
        }
        for (int shelf = 0; shelf < 3; shelf++) {
            KilnYard yard = withPots(1);
            yard.set(0, shelf, 0);
            for (int other = 0; other < 3; other++) {
                checks.same("POTS on shelf " + other, yard.ofShelf(other, 2), other == shelf ? 1 : 0);
            }
        }
    }

    /** Promise 24: "IllegalArgumentException if what is not 0 to 3"; what is, changes nothing. */
    private static void promise24What() {
        for (int what : Twins.outside(0, 3)) {
            twins.badArgument("ofShelf of " + what, Scenes::withAllStates, yard -> yard.ofShelf(2, what));
        }
        twins.unchanged("ofShelf of 0 to 3", Scenes::withAllStates, yard -> {
            for (int what = 0; what < 4; what++) {
                yard.ofShelf(2, what);
            }
        });
    }

    /** Promise 24: "If several exceptions apply, the one that is named first is thrown." */
    private static void promise24FirstNamed() {
        twins.outOfBounds("ofShelf 3 of 4", Scenes::withAllStates, yard -> yard.ofShelf(3, 4));
        twins.outOfBounds("ofShelf -1 of -1", KilnYard::new, yard -> yard.ofShelf(-1, -1));
    }

    /** Promise 24: "how many of 8, 16, 28, 44, 64, 88, 116, 148, 184, 224, 268 and 316 its WORK has come to." */
    private static void promise24Cone() {
        int[] works = {8, 16, 28, 44, 64, 88, 116, 148, 184, 224, 268, 316};
        KilnYard yard = new KilnYard();
        checks.same("CONE of no WORK", yard.ofShelf(1, 0), 0);
        int before = 0;
        for (int cone = 1; cone <= 12; cone++) {
            int work = works[cone - 1];
            Scenes.addWork(yard, 32 * (work - before) - 1);
            checks.same("WORK", yard.kiln(4), work - 0.03125);
            checks.same("CONE just below " + work, yard.ofShelf(1, 0), cone - 1);
            Scenes.addWork(yard, 1);
            checks.same("WORK", yard.kiln(4), work);
            checks.same("CONE of " + work, yard.ofShelf(1, 0), cone);
            before = work;
        }
        Scenes.addWork(yard, 60 * 32);
        checks.same("CONE of more", yard.ofShelf(1, 0), 12);
    }

    /** Promise 24: "1 CELLS that are free, 2 POTS on it": from none to all. */
    private static void promise24Free() {
        KilnYard yard = withPots(10);
        for (int pot = 0; pot < 10; pot++) {
            checks.same("CELLS free", yard.ofShelf(2, 1), 10 - pot);
            checks.same("POTS on it", yard.ofShelf(2, 2), pot);
            yard.set(pot, 2, pot);
        }
        checks.same("CELLS free of a full one", yard.ofShelf(2, 1), 0);
        checks.same("POTS on a full one", yard.ofShelf(2, 2), 10);
        KilnYard wide = Scenes.furnished();
        wide.pot(0, 5, 1, 1);
        wide.set(0, 1, 5);
        checks.same("CELLS free beside one of 5", wide.ofShelf(1, 1), 5);
        checks.same("POTS, one of 5", wide.ofShelf(1, 2), 1);
    }

    private static int longest(int... cells) {
        KilnYard yard = withPots(10);
        for (int pot = 0; pot < cells.length; pot++) {
            yard.set(pot, 1, cells[pot]);
        }
        return yard.ofShelf(1, 3);
    }

    /** Promise 24: "3 the longest row of free CELLS": at the first cell, at the last, between, all and none. */
    private static void promise24Longest() {
        checks.same("of an empty one", longest(), 10);
        checks.same("but the first", longest(0), 9);
        checks.same("but the last", longest(9), 9);
        checks.same("at the first", longest(6), 6);
        checks.same("at the last", longest(3), 6);
        checks.same("between", longest(1, 7), 5);
        checks.same("of two alike", longest(3, 7), 3);
        checks.same("of single ones", longest(0, 2, 4, 6, 8), 1);
        checks.same("the first alone", longest(1, 2, 3, 4, 5, 6, 7, 8, 9), 1);
        checks.same("the last alone", longest(0, 1, 2, 3, 4, 5, 6, 7, 8), 1);
        checks.same("of a full one", longest(0, 1, 2, 3, 4, 5, 6, 7, 8, 9), 0);
    }

    // ---- many

    /** Promise 25: "IllegalArgumentException if what is not 0 to 15"; what is, changes nothing. */
    private static void promise25What() {
        for (int what : Twins.outside(0, 15)) {
            twins.badArgument("many of " + what, Scenes::withAllStates, yard -> yard.many(what));
        }
        twins.unchanged("many of 0 to 15", Scenes::withAllStates, yard -> {
            for (int what = 0; what < 16; what++) {
                yard.many(what);
            }
        });
    }

    /** Promise 25: "3 the RAMP at which it is (NONE, if it is not LIT), 4 HELD (0 likewise)". */
    private static void promise25RampAndHeld() {
        KilnYard yard = new KilnYard();
        checks.same("RAMP never LIT", yard.many(3), -1);
        checks.same("HELD never LIT", yard.many(4), 0);
        for (int ramp = 0; ramp < 5; ramp++) {
            yard.ramp(80, 100, 2);
        }
        checks.same("RAMP not LIT", yard.many(3), -1);
        yard.light();
        checks.same("RAMP LIT", yard.many(3), 0);
        checks.same("HELD LIT", yard.many(4), 0);
        yard.burn(11);
        checks.same("the last RAMP", yard.many(3), 4);
        checks.same("HELD to its HOLD", yard.many(4), 2);
        yard.burn(1);
        checks.same("RAMP gone out", yard.many(3), -1);
        checks.same("HELD gone out", yard.many(4), 0);
        KilnYard stalled = new KilnYard();
        stalled.ramp(200, 650, 1);
        stalled.ramp(200, 700, 1);
        stalled.light();
        while (stalled.many(4) != 1) {
            stalled.burn(1);
        }
        stalled.door(true);
        stalled.burn(1);
        checks.same("STALLS", stalled.many(11), 1);
        checks.same("RAMP stalled", stalled.many(3), -1);
        checks.same("HELD stalled", stalled.many(4), 0);
    }

    /** Promise 25: each number of a yard in which nothing is. */
    private static void promise25Empty() {
        KilnYard yard = new KilnYard();
        for (int what = 0; what < 16; what++) {
            checks.same("many of " + what, yard.many(what), what == 3 ? -1 : 0);
        }
    }

    /** Promise 25: "5 RAMPS, 6 POTS, .. 13 ORDERS that are not MET" of a yard that is full. */
    private static void promise25Full() {
        KilnYard yard = Scenes.full();
        checks.same("RAMPS", yard.many(5), 5);
        checks.same("POTS", yard.many(6), 14);
        checks.same("ORDERS not MET", yard.many(13), 6);
        for (int i = 0; i < 10; i++) {
            yard.dry(20, 1);
        }
        checks.same("DAY", yard.many(0), 200);
        yard.light();
        checks.same("LIT", yard.many(2), 1);
        yard.door(true);
        checks.same("DOOR open", yard.many(15), 1);
        yard.bell();
        checks.same("REFUSED", yard.many(14), 1);
    }

    /** Promise 25: "7 those that are DONE, 8 BROKEN, 9 SOLD", one of each state. */
    private static void promise25Counts() {
        KilnYard yard = Scenes.withAllStates();
        checks.same("POTS", yard.many(6), 7);
        checks.same("DONE", yard.many(7), 1);
        checks.same("BROKEN", yard.many(8), 1);
        checks.same("SOLD", yard.many(9), 1);
        checks.same("PURSE", yard.many(12), 1);
        checks.same("ORDERS not MET", yard.many(13), 0);
        yard.order(Scenes.PALE, 0, 0, 99);
        yard.meet(1, 4);
        checks.same("DONE then", yard.many(7), 0);
        checks.same("SOLD then", yard.many(9), 2);
        checks.same("PURSE then", yard.many(12), 100);
    }
}
