/** Promises 1 to 9: what is told. */
final class ToldTest {
    private static final Checks checks = new Checks();

    public static void main(String[] args) {
        promise1NewObject();
        promise2Clay();
        promise3Glaze();
        promise4Pot();
        promise5Cover();
        promise6DryLoss();
        promise6DryStates();
        promise6DryRefuses();
        promise7Dip();
        promise8SetWhere();
        promise8SetWhat();
        promise8SetWhen();
        promise9Take();
        checks.end();
    }

    private static void promise1NewObject() {
        KilnYard yard = new KilnYard();
        for (int what = 0; what < 16; what++) {
            checks.same("new many " + what, yard.many(what), what == 3 ? -1 : 0);
        }
        double[] kiln = {20.0, 1.0, 90.0, 0.0, 0.0, 0.0};
        for (int what = 0; what < kiln.length; what++) {
            checks.same("new kiln " + what, yard.kiln(what), kiln[what]);
        }
        int[] shelfs = {0, 10, 0, 10};
        for (int shelf = 0; shelf < 3; shelf++) {
            for (int what = 0; what < shelfs.length; what++) {
                checks.same("new ofShelf " + what, yard.ofShelf(shelf, what), shelfs[what]);
            }
        }
        checks.same("new door", yard.door(false), false);
        checks.same("new damper", yard.damper(0), 0);
        checks.outOfBounds("new pot of clay 0", yard, () -> yard.pot(0, 1, 1, 1));
        checks.outOfBounds("new ofGlaze 0", yard, () -> yard.ofGlaze(0, 0));
        checks.outOfBounds("new ofPot 0", yard, () -> yard.ofPot(0, 0));
    }

    private static void promise2Clay() {
        KilnYard yard = new KilnYard();
        for (int[] wrong : new int[][] {{0, 8}, {13, 8}, {1, 7}, {1, 41}, {-1, -1}, {Integer.MAX_VALUE, 8}}) {
            checks.badArgument("clay " + wrong[0] + " " + wrong[1], yard, () -> yard.clay(wrong[0], wrong[1]));
        }
        checks.same("first clay", yard.clay(1, 8), 0);
        checks.same("second clay", yard.clay(12, 40), 1);
        checks.same("third clay", yard.clay(5, 9), 2);
        checks.badState("fourth clay", yard, () -> yard.clay(5, 9));
        checks.badArgument("fourth clay, and wrong", yard, () -> yard.clay(0, 9));
        growthIsTold();
    }

    /** The growth is told in quarters: a glaze of growth 4.0 suits a clay of 2.0 to 6.0. */
    private static void growthIsTold() {
        int[] quarters = {8, 24, 25};
        int[] best = {0, 0, -1};
        KilnYard yard = new KilnYard();
        yard.glaze(0, 1, 0, 0, 0);
        for (int i = 0; i < quarters.length; i++) {
            yard.clay(1, quarters[i]);
            checks.same("best on a clay of " + quarters[i], yard.best(i, 1), best[i]);
        }
    }

    private static void promise3Glaze() {
        KilnYard yard = new KilnYard();
        for (int part = 0; part < 5; part++) {
            int[] low = {1, 1, 1, 1, 1};
            low[part] = -1;
            checks.badArgument("glaze of part " + part + " -1", yard, () -> told(yard, low));
            int[] high = {1, 1, 1, 1, 1};
            high[part] = 61;
            checks.badArgument("glaze of part " + part + " 61", yard, () -> told(yard, high));
        }
        checks.badArgument("glaze without flux", yard, () -> yard.glaze(0, 0, 60, 60, 60));
        checks.badArgument("glaze whose flux is 0 in sum alone", yard, () -> yard.glaze(1, -1, 0, 0, 0));
        checks.same("first glaze", yard.glaze(60, 60, 60, 60, 60), 0);
        checks.same("second glaze", yard.glaze(1, 0, 0, 0, 0), 1);
        checks.same("third glaze", yard.glaze(0, 1, 0, 0, 0), 2);
        checks.same("fourth glaze", yard.glaze(0, 1, 0, 0, 60), 3);
        checks.badState("fifth glaze", yard, () -> yard.glaze(1, 1, 1, 1, 1));
        checks.badArgument("fifth glaze, and wrong", yard, () -> yard.glaze(0, 0, 1, 1, 1));
    }

    private static int told(KilnYard yard, int[] parts) {
        return yard.glaze(parts[0], parts[1], parts[2], parts[3], parts[4]);
    }

    private static void promise4Pot() {
        KilnYard yard = new KilnYard();
        checks.outOfBounds("pot of no clay", yard, () -> yard.pot(0, 1, 1, 1));
        yard.clay(5, 12);
        checks.outOfBounds("pot of clay -1", yard, () -> yard.pot(-1, 1, 1, 1));
        checks.outOfBounds("pot of clay 1, and wrong", yard, () -> yard.pot(1, 0, 0, 0));
        checks.outOfBounds("pot of clay 3", yard, () -> yard.pot(3, 1, 1, 1));
        int[][] wrongs = {{0, 1, 1}, {6, 1, 1}, {1, 0, 1}, {1, 4, 1}, {1, 1, 0}, {1, 1, 3}, {1, 1, 5}, {1, 1, 8}};
        for (int[] wrong : wrongs) {
            checks.badArgument("pot of " + wrong[0] + " " + wrong[1] + " " + wrong[2], yard,
                    () -> yard.pot(0, wrong[0], wrong[1], wrong[2]));
        }
        for (int pot = 0; pot < 14; pot++) {
            checks.same("pot", yard.pot(0, 1 + pot % 5, 1 + pot % 3, 1 << pot % 3), pot);
        }
        checks.badState("pot 14", yard, () -> yard.pot(0, 1, 1, 1));
        checks.badArgument("pot 14, and wrong", yard, () -> yard.pot(0, 1, 1, 3));
        checks.outOfBounds("pot 14 of no clay", yard, () -> yard.pot(1, 1, 1, 3));
        int[] fresh = {0, -1, 0, -1, -1, 0, -1, 0};
        for (int what = 0; what < fresh.length; what++) {
            checks.same("new ofPot " + what, yard.ofPot(13, what), fresh[what]);
        }
        checks.same("new water", yard.water(13), 8.0);
        checks.same("POTS", yard.many(6), 14);
    }

    private static void promise5Cover() {
        KilnYard yard = Scenes.furnished();
        yard.pot(0, 1, 1, 1);
        checks.outOfBounds("cover -1", yard, () -> yard.cover(-1, true));
        checks.outOfBounds("cover 1", yard, () -> yard.cover(1, true));
        checks.same("cover", yard.cover(0, true), false);
        checks.same("is covered", yard.ofPot(0, 7), 1);
        checks.same("cover again", yard.cover(0, true), true);
        checks.same("uncover", yard.cover(0, false), true);
        checks.same("is not covered", yard.ofPot(0, 7), 0);
        checks.same("uncover again", yard.cover(0, false), false);
    }

    private static void promise6DryLoss() {
        int[] walls = {1, 2, 4};
        for (int wall : walls) {
            for (int air = 1; air <= 8; air++) {
                KilnYard yard = Scenes.furnished();
                yard.pot(0, 1, 1, wall);
                yard.pot(0, 1, 1, wall);
                yard.cover(1, true);
                yard.dry(1, air);
                String of = "wall " + wall + " in air " + air;
                double loss = air * 0.5 / wall;
                checks.same("water of " + of, yard.water(0), 8.0 - loss);
                checks.same("covered water of " + of, yard.water(1), 8.0 - loss / 2.0);
                checks.same("marks of " + of, yard.ofPot(0, 2), loss > 1.5 ? 2 : 0);
                checks.same("covered marks of " + of, yard.ofPot(1, 2), loss > 3.0 ? 2 : 0);
                checks.same("state of " + of, yard.ofPot(0, 0), 0);
            }
        }
    }

    private static void promise6DryStates() {
        KilnYard yard = Scenes.furnished();
        yard.pot(0, 1, 1, 4);
        yard.pot(0, 1, 1, 1);
        yard.pot(0, 1, 1, 2);
        yard.set(2, 0, 0);
        checks.same("dry 4 days", yard.dry(4, 5), 1);
        checks.same("no more is lost than is there", yard.water(1), 0.0);
        checks.same("DAY", yard.many(0), 4);
        checks.same("not on a shelf", yard.water(2), 8.0);
        checks.same("water of wall 4", yard.water(0), 8.0 - 4 * 0.625);
        yard.take(2);
        checks.same("dry 8 days", yard.dry(8, 5), 2);
        checks.same("wet above 0.25", yard.ofPot(0, 0), 0);
        checks.same("water above 0.25", yard.water(0), 0.5);
        checks.same("dry 1 day", yard.dry(1, 2), 3);
        checks.same("dry at 0.25", yard.ofPot(0, 0), 1);
        checks.same("dry at 0.25 keeps it", yard.water(0), 0.25);
        checks.same("dry 2 days", yard.dry(2, 8), 3);
        checks.same("a dry one loses nothing", yard.water(0), 0.25);
        checks.same("a dry one does not crack", yard.ofPot(0, 2), 0);
        checks.same("DAY", yard.many(0), 15);
        lastLossIsWhatIsThere();
        dryAtAQuarter();
    }

    /** A pot that has 1.5f left loses just that in any air, and so is not cracked. */
    private static void lastLossIsWhatIsThere() {
        KilnYard yard = Scenes.furnished();
        yard.pot(0, 1, 1, 1);
        yard.pot(0, 1, 1, 1);
        yard.cover(1, true);
        yard.dry(13, 1);
        yard.cover(1, false);
        checks.same("water before", yard.water(0), 1.5);
        checks.same("dry", yard.dry(1, 8), 1);
        checks.same("water then", yard.water(0), 0.0);
        checks.same("not cracked by 1.5f", yard.ofPot(0, 2), 0);
        checks.same("cracked by 4f", yard.ofPot(1, 2), 2);
        checks.same("a crack does not break it", yard.ofPot(1, 0), 0);
        KilnYard little = Scenes.furnished();
        little.pot(0, 1, 1, 2);
        little.cover(0, true);
        little.dry(20, 1);
        little.dry(20, 1);
        little.dry(11, 1);
        little.cover(0, false);
        checks.same("water before", little.water(0), 1.625);
        checks.same("dry", little.dry(1, 8), 1);
        checks.same("cracked by 1.625f", little.ofPot(0, 2), 2);
    }

    private static void dryAtAQuarter() {
        KilnYard yard = Scenes.furnished();
        yard.pot(0, 1, 1, 4);
        yard.dry(7, 8);
        yard.cover(0, true);
        checks.same("dry to 0.3125", yard.dry(11, 1), 0);
        checks.same("water", yard.water(0), 0.3125);
        checks.same("dry to 0.25", yard.dry(1, 1), 1);
        checks.same("water", yard.water(0), 0.25);
    }

    private static void promise6DryRefuses() {
        KilnYard yard = Scenes.furnished();
        yard.pot(0, 1, 1, 4);
        for (int[] wrong : new int[][] {{0, 1}, {21, 1}, {1, 0}, {1, 9}, {-5, 4}, {Integer.MIN_VALUE, 1}}) {
            checks.badArgument("dry " + wrong[0] + " " + wrong[1], yard, () -> yard.dry(wrong[0], wrong[1]));
        }
        for (int i = 0; i < 9; i++) {
            yard.dry(20, 1);
        }
        yard.dry(19, 1);
        checks.badState("dry to DAY 201", yard, () -> yard.dry(2, 1));
        checks.badArgument("dry to DAY 220, and wrong", yard, () -> yard.dry(21, 1));
        checks.same("dry to DAY 200", yard.dry(1, 1), 1);
        checks.same("DAY", yard.many(0), 200);
        checks.badState("dry at DAY 200", yard, () -> yard.dry(1, 1));
    }

    private static void promise7Dip() {
        KilnYard yard = Scenes.withBisquePots(Scenes.TOUGH, 1);
        yard.pot(0, 1, 1, 1);
        checks.outOfBounds("dip pot -1", yard, () -> yard.dip(-1, 0));
        checks.outOfBounds("dip pot 2", yard, () -> yard.dip(2, 0));
        checks.outOfBounds("dip into glaze -1", yard, () -> yard.dip(0, -1));
        checks.outOfBounds("dip into glaze 2", yard, () -> yard.dip(0, 2));
        checks.outOfBounds("dip a wet pot into glaze 4", yard, () -> yard.dip(1, 4));
        checks.badState("dip a wet pot", yard, () -> yard.dip(1, 0));
        checks.same("dip", yard.dip(0, 1), 2);
        checks.same("state", yard.ofPot(0, 0), 3);
        checks.same("glaze", yard.ofPot(0, 1), 1);
        checks.badState("dip a glazed pot", yard, () -> yard.dip(0, 0));
        yard.dry(14, 1);
        yard.dry(2, 1);
        checks.badState("dip a dry pot", yard, () -> yard.dip(1, 0));
    }

    private static void promise8SetWhere() {
        KilnYard yard = Scenes.furnished();
        yard.pot(0, 5, 1, 1);
        yard.pot(0, 2, 2, 1);
        yard.pot(0, 3, 3, 1);
        checks.outOfBounds("set pot -1", yard, () -> yard.set(-1, 0, 0));
        checks.outOfBounds("set pot 3", yard, () -> yard.set(3, 0, 0));
        checks.outOfBounds("set on shelf -1", yard, () -> yard.set(0, -1, 0));
        checks.outOfBounds("set on shelf 3", yard, () -> yard.set(0, 3, 0));
        checks.outOfBounds("set on cell -1", yard, () -> yard.set(0, 0, -1));
        checks.outOfBounds("set on cell 10", yard, () -> yard.set(0, 0, 10));
        checks.badState("set beyond the last cell", yard, () -> yard.set(0, 0, 6));
        checks.badState("set a pot of height 3 on shelf 2", yard, () -> yard.set(2, 2, 0));
        checks.same("set up to the last cell", yard.set(0, 0, 5), 5);
        checks.same("its shelf", yard.ofPot(0, 3), 0);
        checks.same("its cell", yard.ofPot(0, 4), 5);
        checks.badState("set again", yard, () -> yard.set(0, 1, 0));
        checks.badState("set on the first cell of another", yard, () -> yard.set(1, 0, 4));
        checks.badState("set on the last cell of another", yard, () -> yard.set(1, 0, 8));
        checks.same("set beside another", yard.set(1, 0, 3), 3);
        checks.same("set beside two", yard.set(2, 0, 0), 0);
        yard.take(1);
        checks.same("set of height 2 on shelf 2", yard.set(1, 2, 8), 8);
        yard.take(2);
        checks.same("set of height 3 on shelf 1", yard.set(2, 1, 3), 7);
    }

    private static void promise8SetWhat() {
        KilnYard yard = Scenes.withDryPots(Scenes.WEAK, 3);
        yard.pot(0, 1, 1, 1);
        checks.same("set a wet pot", yard.set(3, 0, 0), 9);
        yard.take(3);
        checks.same("set a dry pot", yard.set(0, 1, 0), 9);
        yard.set(1, 1, 1);
        Scenes.fire(yard, 2);
        yard.unload();
        checks.badState("set a bisque pot", yard, () -> yard.set(0, 1, 0));
        yard.dip(0, 0);
        yard.dip(1, 0);
        checks.same("set a glazed pot", yard.set(0, 1, 0), 9);
        Scenes.fire(yard, 2);
        yard.unload();
        checks.badState("set a done pot", yard, () -> yard.set(0, 1, 0));
        yard.order(0, 0, 0, 1);
        yard.meet(0, 0);
        checks.badState("set a sold pot", yard, () -> yard.set(0, 1, 0));
        yard.set(2, 1, 0);
        Scenes.fire(yard, 4);
        yard.unload();
        checks.same("slumped", yard.ofPot(2, 0), 5);
        checks.badState("set a broken pot", yard, () -> yard.set(2, 1, 0));
    }

    private static void promise8SetWhen() {
        KilnYard yard = Scenes.withDryPots(Scenes.TOUGH, 1);
        Scenes.heatTo(yard, 180);
        checks.badState("set as it is lit", yard, () -> yard.set(0, 1, 0));
        Scenes.coolToHundred(yard);
        checks.badState("set at 100.0", yard, () -> yard.set(0, 1, 0));
        checks.outOfBounds("set at 100.0 on no cell", yard, () -> yard.set(0, 1, 10));
        yard.burn(1);
        checks.same("set at 90.0", yard.set(0, 1, 0), 9);
        yard.take(0);
        yard.light();
        checks.badState("set as it is lit and cold", yard, () -> yard.set(0, 1, 0));
    }

    private static void promise9Take() {
        KilnYard yard = Scenes.furnished();
        yard.pot(0, 2, 1, 1);
        yard.pot(0, 1, 1, 1);
        yard.set(0, 2, 7);
        checks.outOfBounds("take pot -1", yard, () -> yard.take(-1));
        checks.outOfBounds("take pot 2", yard, () -> yard.take(2));
        checks.badState("take from no shelf", yard, () -> yard.take(1));
        checks.same("take", yard.take(0), 2);
        checks.same("no shelf then", yard.ofPot(0, 3), -1);
        checks.same("no cell then", yard.ofPot(0, 4), -1);
        checks.same("cells are free then", yard.ofShelf(2, 1), 10);
        checks.badState("take again", yard, () -> yard.take(0));
        yard.set(0, 1, 3);
        Scenes.heatTo(yard, 180);
        checks.badState("take as it is lit", yard, () -> yard.take(0));
        Scenes.coolToHundred(yard);
        checks.badState("take at 100.0", yard, () -> yard.take(0));
        yard.burn(1);
        checks.same("the wet pot is broken", yard.ofPot(0, 0), 5);
        checks.same("take a broken pot", yard.take(0), 1);
        yard.set(1, 0, 0);
        yard.light();
        checks.badState("take as it is lit and cold", yard, () -> yard.take(1));
    }
}
