/** Promises 18 and 19: orders. */
final class OrderTest {
    private static final Checks checks = new Checks();

    public static void main(String[] args) {
        promise18Order();
        promise19Meet();
        promise19MeetRefuses();
        promise19MeetLate();
        promise19MeetMarked();
        promise19MeetColours();
        checks.end();
    }

    private static void promise18Order() {
        KilnYard yard = new KilnYard();
        checks.outOfBounds("order of no glaze", yard, () -> yard.order(0, 0, 0, 1));
        yard.glaze(1, 1, 1, 1, 1);
        checks.outOfBounds("order of glaze -1", yard, () -> yard.order(-1, 0, 0, 1));
        checks.outOfBounds("order of glaze 1, and wrong", yard, () -> yard.order(1, 3, 61, 0));
        int[][] wrongs = {{-1, 0, 1}, {3, 0, 1}, {0, -1, 1}, {0, 61, 1}, {0, 0, 0}, {0, 0, 100}};
        for (int[] wrong : wrongs) {
            checks.badArgument("order " + wrong[0] + " " + wrong[1] + " " + wrong[2], yard,
                    () -> yard.order(0, wrong[0], wrong[1], wrong[2]));
        }
        for (int order = 0; order < 6; order++) {
            checks.same("order", yard.order(0, order % 3, order * 12, 1 + order), order);
        }
        checks.same("ORDERS not MET", yard.many(13), 6);
        checks.badState("seventh order", yard, () -> yard.order(0, 2, 60, 99));
        checks.badArgument("seventh order, and wrong", yard, () -> yard.order(0, 2, 60, 100));
        checks.outOfBounds("seventh order of no glaze", yard, () -> yard.order(1, 2, 60, 99));
    }

    private static void promise19Meet() {
        KilnYard yard = Scenes.withDonePots(2, Scenes.PALE);
        yard.order(Scenes.PALE, 0, 0, 99);
        yard.order(Scenes.PALE, 0, 60, 1);
        checks.same("meet", yard.meet(0, 0), 99);
        checks.same("STATE", yard.ofPot(0, 0), 6);
        checks.same("PURSE", yard.many(12), 99);
        checks.same("SOLD", yard.many(9), 1);
        checks.same("DONE", yard.many(7), 1);
        checks.same("ORDERS not MET", yard.many(13), 1);
        checks.badState("meet an order that is met", yard, () -> yard.meet(0, 1));
        checks.badState("meet with a pot that is sold", yard, () -> yard.meet(1, 0));
        checks.same("meet", yard.meet(1, 1), 1);
        checks.same("PURSE", yard.many(12), 100);
        checks.same("ORDERS not MET", yard.many(13), 0);
    }

    private static void promise19MeetRefuses() {
        KilnYard yard = Scenes.withDonePots(1, Scenes.PALE);
        yard.pot(0, 1, 1, 1);
        yard.order(Scenes.PALE, 1, 0, 9);
        yard.order(Scenes.PALE, 2, 0, 9);
        yard.order(Scenes.RUSTY, 0, 0, 9);
        yard.order(Scenes.PALE, 0, 0, 9);
        checks.outOfBounds("meet order -1", yard, () -> yard.meet(-1, 0));
        checks.outOfBounds("meet order 4", yard, () -> yard.meet(4, 0));
        checks.outOfBounds("meet order 6", yard, () -> yard.meet(6, 0));
        checks.outOfBounds("meet with pot -1", yard, () -> yard.meet(3, -1));
        checks.outOfBounds("meet with pot 2", yard, () -> yard.meet(3, 2));
        checks.badState("meet with a wet pot", yard, () -> yard.meet(3, 1));
        checks.badState("meet for colour 1", yard, () -> yard.meet(0, 0));
        checks.badState("meet for colour 2", yard, () -> yard.meet(1, 0));
        checks.badState("meet for another glaze", yard, () -> yard.meet(2, 0));
        checks.same("meet", yard.meet(3, 0), 9);
        checks.outOfBounds("meet a met order with pot 2", yard, () -> yard.meet(3, 2));
        KilnYard glazed = Scenes.withGlazedPots(Scenes.TOUGH, 1, Scenes.PALE);
        glazed.order(Scenes.PALE, 0, 0, 9);
        checks.badState("meet with a glazed pot", glazed, () -> glazed.meet(0, 0));
    }

    private static void promise19MeetLate() {
        KilnYard yard = Scenes.withDonePots(4, Scenes.PALE);
        checks.same("DAY", yard.many(0), 8);
        yard.order(Scenes.PALE, 0, 3, 10);
        yard.order(Scenes.PALE, 0, 1, 10);
        yard.order(Scenes.PALE, 0, 0, 4);
        yard.order(Scenes.PALE, 0, 0, 2);
        yard.dry(3, 1);
        checks.same("on the DUE DAY", yard.meet(0, 0), 10);
        checks.same("2 DAYS behind", yard.meet(1, 1), 8);
        checks.same("3 DAYS behind", yard.meet(2, 2), 1);
        checks.same("0 at least", yard.meet(3, 3), 0);
        checks.same("PURSE", yard.many(12), 19);
    }

    /** Pots that are DULL: half the price, and then less what the delay costs. */
    private static void promise19MeetMarked() {
        KilnYard yard = Scenes.withGlazedPots(Scenes.TOUGH, 4, Scenes.PALE);
        Scenes.fire(yard, 1);
        yard.unload();
        checks.same("DULL", yard.ofPot(0, 2), 8);
        yard.order(Scenes.PALE, 0, 60, 9);
        yard.order(Scenes.PALE, 0, 60, 1);
        yard.order(Scenes.PALE, 0, 0, 9);
        yard.order(Scenes.PALE, 0, 0, 6);
        checks.same("half of 9", yard.meet(0, 0), 4);
        checks.same("half of 1", yard.meet(1, 1), 0);
        yard.dry(4, 1);
        checks.same("half of 9, 4 DAYS behind", yard.meet(2, 2), 0);
        checks.same("half of 6, 4 DAYS behind", yard.meet(3, 3), 0);
        checks.same("PURSE", yard.many(12), 4);
    }

    private static void promise19MeetColours() {
        int[] smokes = {3, 4};
        int[] colours = {2, 1};
        for (int i = 0; i < smokes.length; i++) {
            KilnYard yard = Scenes.withGlazedPots(Scenes.TOUGH, 1, Scenes.RUSTY);
            smoke(yard, smokes[i]);
            yard.unload();
            checks.same("SMOKE", yard.ofPot(0, 5), smokes[i]);
            checks.same("COLOUR with a smoke of " + smokes[i], yard.ofPot(0, 6), colours[i]);
            for (int colour = 0; colour < 3; colour++) {
                yard.order(Scenes.RUSTY, colour, 0, 9);
            }
            checks.badState("meet for another colour", yard, () -> yard.meet(0, 0));
            int other = 3 - colours[i];
            checks.badState("meet for another colour", yard, () -> yard.meet(other, 0));
            checks.same("meet, with RUN", yard.meet(colours[i], 0), 4);
            checks.same("COLOUR of a sold pot", yard.ofPot(0, 6), colours[i]);
        }
    }

    /** Holds the kiln at 820.0 with the damper at 3 for so many steps. */
    private static void smoke(KilnYard yard, int steps) {
        Scenes.heatTo(yard, 820);
        yard.damper(3);
        yard.burn(steps);
        yard.damper(0);
        yard.burn(20);
        Scenes.cool(yard);
    }
}
