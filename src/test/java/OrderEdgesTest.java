/**
 * Promises 18 and 19, sentence by sentence: the boundary cases of orders.
 * The remark on each test names its promise and quotes the sentence that it holds.
 */
final class OrderEdgesTest {
    private static final Checks checks = new Checks();
    private static final Twins twins = new Twins(checks);

    public static void main(String[] args) {
        promise18Glaze();
        promise18Colour();
        promise18Days();
        promise18Price();
        promise18AtMost6();
        promise18Order();
        promise19Order();
        promise19Pot();
        promise19Met();
        promise19NotDone();
        promise19OtherGlaze();
        promise19OtherColour();
        promise19Half();
        promise19Late();
        promise19AtLeast0();
        promise19HalfAndLate();
        promise19FirstNamed();
        checks.end();
    }

    private static KilnYard withOrders(int count) {
        KilnYard yard = Scenes.withDonePots(2, Scenes.PALE);
        for (int order = 0; order < count; order++) {
            yard.order(Scenes.PALE, 0, 0, 9);
        }
        return yard;
    }

    private static KilnYard withFourGlazes() {
        KilnYard yard = withOrders(0);
        yard.glaze(1, 0, 0, 0, 0);
        yard.glaze(1, 0, 0, 0, 0);
        return yard;
    }

    /** Promise 18: "IndexOutOfBoundsException if there is no such GLAZE". */
    private static void promise18Glaze() {
        for (int glaze : Twins.outside(0, 1)) {
            twins.outOfBounds("order of glaze " + glaze, () -> withOrders(1), yard -> yard.order(glaze, 0, 0, 9));
        }
        twins.outOfBounds("order in a new yard", KilnYard::new, yard -> yard.order(0, 0, 0, 9));
        twins.outOfBounds("order of glaze 4 of 4", OrderEdgesTest::withFourGlazes, yard -> yard.order(4, 0, 0, 9));
        KilnYard yard = withFourGlazes();
        checks.same("order of the first glaze", yard.order(0, 0, 0, 9), 0);
        checks.same("order of the last glaze", yard.order(3, 0, 0, 9), 1);
    }

    /** Promise 18: "IllegalArgumentException if colour is not 0 to 2". */
    private static void promise18Colour() {
        KilnYard yard = withOrders(0);
        for (int colour = 0; colour < 3; colour++) {
            checks.same("order of colour " + colour, yard.order(0, colour, 0, 9), colour);
        }
        for (int colour : Twins.outside(0, 2)) {
            twins.badArgument("order of colour " + colour, () -> withOrders(1), it -> it.order(0, colour, 0, 9));
        }
    }

    /** What an order of 9 brings that is due in so many days, met behind so many. */
    private static int brought(int days, int behind) {
        KilnYard yard = withOrders(0);
        yard.order(Scenes.PALE, 0, days, 9);
        for (int left = behind; left > 0; left -= 20) {
            yard.dry(Math.min(left, 20), 1);
        }
        return yard.meet(0, 0);
    }

    /** Promise 18: "in how many DAYS it is DUE", "IllegalArgumentException if .. days not 0 to 60". */
    private static void promise18Days() {
        checks.same("DUE in 0, met today", brought(0, 0), 9);
        checks.same("DUE in 0, met tomorrow", brought(0, 1), 8);
        checks.same("DUE in 60, met on the DAY", brought(60, 60), 9);
        checks.same("DUE in 60, met a DAY behind", brought(60, 61), 8);
        for (int days : Twins.outside(0, 60)) {
            twins.badArgument("order in " + days + " days", () -> withOrders(1), yard -> yard.order(0, 0, days, 9));
        }
        KilnYard last = withOrders(0);
        for (int i = 0; i < 9; i++) {
            last.dry(20, 1);
        }
        last.dry(12, 1);
        checks.same("DAY", last.many(0), 200);
        checks.same("order DUE behind the last DAY", last.order(0, 0, 60, 9), 0);
        checks.same("met on the last DAY", last.meet(0, 0), 9);
    }

    /** Promise 18: "a PRICE (1 to 99)", "IllegalArgumentException if .. price not 1 to 99". */
    private static void promise18Price() {
        KilnYard yard = withOrders(0);
        yard.order(0, 0, 0, 1);
        yard.order(0, 0, 0, 99);
        checks.same("a PRICE of 1", yard.meet(0, 0), 1);
        checks.same("a PRICE of 99", yard.meet(1, 1), 99);
        checks.same("PURSE", yard.many(12), 100);
        for (int price : Twins.outside(1, 99)) {
            twins.badArgument("order for " + price, () -> withOrders(1), it -> it.order(0, 0, 0, price));
        }
    }

    /** Promise 18: "ORDERS: at most 6, numbered from 0", "IllegalStateException if there are 6", MET ones too. */
    private static void promise18AtMost6() {
        KilnYard yard = withOrders(0);
        for (int order = 0; order < 6; order++) {
            checks.same("order", yard.order(0, 0, 0, 9), order);
        }
        checks.same("ORDERS not MET", yard.many(13), 6);
        twins.badState("a seventh order", () -> withOrders(6), it -> it.order(0, 0, 0, 9));
        twins.badState("a seventh order, one MET", () -> {
            KilnYard met = withOrders(6);
            met.meet(5, 0);
            return met;
        }, it -> it.order(0, 0, 0, 9));
    }

    /** Promise 18: "If several exceptions apply, the one that is named first is thrown." */
    private static void promise18Order() {
        twins.outOfBounds("a seventh of no glaze and colour 3", () -> withOrders(6), yard -> yard.order(2, 3, 0, 9));
        twins.outOfBounds("of no glaze and 61 days", () -> withOrders(1), yard -> yard.order(2, 0, 61, 9));
        twins.outOfBounds("a seventh of no glaze", () -> withOrders(6), yard -> yard.order(-1, 0, 0, 9));
        twins.badArgument("a seventh of colour -1", () -> withOrders(6), yard -> yard.order(0, -1, 0, 9));
        twins.badArgument("a seventh in 61 days", () -> withOrders(6), yard -> yard.order(0, 0, 61, 9));
        twins.badArgument("a seventh for 100", () -> withOrders(6), yard -> yard.order(0, 0, 0, 100));
    }

    /** Promise 19: "IndexOutOfBoundsException if there is no such ORDER". */
    private static void promise19Order() {
        for (int orders : new int[] {0, 1, 6}) {
            for (int order : Twins.outside(0, orders - 1)) {
                twins.outOfBounds("meet order " + order + " of " + orders, () -> withOrders(orders),
                        yard -> yard.meet(order, 0));
            }
        }
        KilnYard yard = withOrders(6);
        checks.same("meet the first order", yard.meet(0, 0), 9);
        checks.same("meet the last order", yard.meet(5, 1), 9);
    }

    /** Promise 19: "IndexOutOfBoundsException if there is no such .. POT". */
    private static void promise19Pot() {
        for (int pot : Twins.outside(0, 1)) {
            twins.outOfBounds("meet with pot " + pot, () -> withOrders(1), yard -> yard.meet(0, pot));
        }
        checks.same("meet with the first pot", withOrders(1).meet(0, 0), 9);
        checks.same("meet with the last pot", withOrders(1).meet(0, 1), 9);
    }

    /** Promise 19: "An ORDER is MET once.", "IllegalStateException if it is MET". */
    private static void promise19Met() {
        twins.badState("meet again", () -> {
            KilnYard yard = withOrders(2);
            yard.meet(0, 0);
            return yard;
        }, yard -> yard.meet(0, 1));
        KilnYard yard = withOrders(2);
        yard.meet(0, 0);
        checks.same("ORDERS not MET", yard.many(13), 1);
        checks.same("meet another", yard.meet(1, 1), 9);
        checks.same("ORDERS not MET", yard.many(13), 0);
        checks.same("PURSE", yard.many(12), 18);
    }

    private static KilnYard withAllStatesAndOrders() {
        KilnYard yard = Scenes.withAllStates();
        for (int colour = 0; colour < 3; colour++) {
            yard.order(Scenes.PALE, colour, 0, 9);
        }
        return yard;
    }

    /** Promise 19: "To MEET one with a DONE POT", "IllegalStateException if .. the POT is not DONE". */
    private static void promise19NotDone() {
        for (int state : new int[] {0, 1, 2, 3, 5, 6}) {
            twins.badState("meet with a pot of state " + state, OrderEdgesTest::withAllStatesAndOrders,
                    yard -> yard.meet(1, state));
        }
        KilnYard yard = withAllStatesAndOrders();
        checks.same("meet with a DONE pot", yard.meet(1, 4), 9);
        checks.same("it is SOLD", yard.ofPot(4, 0), 6);
    }

    /** Promise 19: "IllegalStateException if .. the POT is .. not of its GLAZE". */
    private static void promise19OtherGlaze() {
        twins.badState("meet for glaze 1 with glaze 0", () -> {
            KilnYard yard = withOrders(0);
            // With little iron its colour would be the same.
            yard.glaze(1, 1, 2, 1, 4);
            yard.order(2, 0, 0, 9);
            return yard;
        }, yard -> yard.meet(0, 0));
    }

    /** Promise 19: "IllegalStateException if .. the POT is .. not of its .. COLOUR", each of the three. */
    private static void promise19OtherColour() {
        for (int colour : new int[] {1, 2}) {
            twins.badState("meet for colour " + colour + " with colour 0", () -> {
                KilnYard yard = withOrders(0);
                yard.order(Scenes.PALE, colour, 0, 9);
                return yard;
            }, yard -> yard.meet(0, 0));
        }
        for (int smoke : new int[] {3, 4}) {
            int is = smoke == 4 ? 1 : 2;
            for (int colour = 0; colour < 3; colour++) {
                int wanted = colour;
                if (colour == is) {
                    checks.same("meet for colour " + is, withSmoked(smoke, is).meet(0, 0), 9);
                } else {
                    twins.badState("meet for colour " + colour + " with colour " + is,
                            () -> withSmoked(smoke, wanted), yard -> yard.meet(0, 0));
                }
            }
        }
    }

    /** A done pot of the rusty glaze that was smoked in so many steps, and an order of 9 for that colour. */
    private static KilnYard withSmoked(int smoke, int colour) {
        KilnYard yard = Scenes.withGlazedPots(Scenes.TOUGH, 1, Scenes.RUSTY);
        Scenes.smoke(yard, smoke);
        yard.unload();
        yard.order(Scenes.RUSTY, colour, 0, 9);
        return yard;
    }

    /** Two done pots with a mark, DULL, and an order for them that is due in so many days. */
    private static KilnYard withMarked(int days, int price) {
        KilnYard yard = Scenes.withGlazedPots(Scenes.TOUGH, 2, Scenes.PALE);
        Scenes.fire(yard, 1);
        yard.unload();
        yard.order(Scenes.PALE, 0, days, price);
        return yard;
    }

    /** Promise 19: "(half of it, if the POT has MARKS)", "What is whole is rounded down as it is divided." */
    private static void promise19Half() {
        int[] prices = {1, 2, 3, 98, 99};
        int[] halves = {0, 1, 1, 49, 49};
        for (int i = 0; i < prices.length; i++) {
            KilnYard yard = withMarked(0, prices[i]);
            checks.same("MARKS", yard.ofPot(0, 2), 8);
            checks.same("half of " + prices[i], yard.meet(0, 0), halves[i]);
            checks.same("PURSE", yard.many(12), halves[i]);
            checks.same("SOLD also for nothing", yard.ofPot(0, 0), 6);
        }
    }

    /** Promise 19: "less 1 for each DAY behind DUE". */
    private static void promise19Late() {
        checks.same("a DAY before DUE", brought(2, 1), 9);
        checks.same("on the DAY", brought(2, 2), 9);
        checks.same("a DAY behind", brought(2, 3), 8);
        checks.same("two DAYS behind", brought(2, 4), 7);
    }

    /** Promise 19: "(0 at least)". */
    private static void promise19AtLeast0() {
        checks.same("8 DAYS behind of 9", brought(0, 8), 1);
        checks.same("9 DAYS behind of 9", brought(0, 9), 0);
        checks.same("10 DAYS behind of 9", brought(0, 10), 0);
        checks.same("180 DAYS behind of 9", brought(0, 180), 0);
        KilnYard yard = withOrders(2);
        yard.meet(0, 0);
        yard.dry(20, 1);
        checks.same("20 DAYS behind", yard.meet(1, 1), 0);
        checks.same("PURSE is not less by it", yard.many(12), 9);
        checks.same("it is MET", yard.many(13), 0);
    }

    /** Promise 19: "PRICE (half of it, if the POT has MARKS), less 1 for each DAY behind DUE (0 at least)". */
    private static void promise19HalfAndLate() {
        int[] behind = {0, 1, 3, 4, 5};
        int[] brings = {4, 3, 1, 0, 0};
        for (int i = 0; i < behind.length; i++) {
            KilnYard yard = withMarked(1, 9);
            yard.dry(1 + behind[i], 1);
            checks.same("half of 9, " + behind[i] + " DAYS behind", yard.meet(0, 0), brings[i]);
        }
    }

    /** Promise 19: "If several exceptions apply, the one that is named first is thrown." */
    private static void promise19FirstNamed() {
        twins.outOfBounds("meet no order with a WET pot", OrderEdgesTest::withAllStatesAndOrders,
                yard -> yard.meet(4, 0));
        twins.outOfBounds("meet a MET order with no pot", OrderEdgesTest::withAllStatesAndOrders,
                yard -> yard.meet(0, 7));
        twins.outOfBounds("meet no order with no pot", OrderEdgesTest::withAllStatesAndOrders,
                yard -> yard.meet(-1, -1));
    }
}
