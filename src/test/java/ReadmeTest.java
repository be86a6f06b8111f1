/** The examples of README.md, line by line: they do what their remarks say. */
final class ReadmeTest {
    private static final Checks checks = new Checks();

    public static void main(String[] args) {
        fromClayToPurse();
        whatIsRefused();
        checks.end();
    }

    private static void fromClayToPurse() {
        KilnYard yard = new KilnYard();
        int clay = yard.clay(9, 12);
        int glaze = yard.glaze(1, 1, 2, 1, 5);
        checks.same("it suits", yard.best(clay, 2), glaze);
        int pot = yard.pot(clay, 2, 1, 1);
        checks.same("it is DRY", yard.dry(8, 2), 1);

        checks.same("cells left", yard.set(pot, 1, 0), 8);
        yard.ramp(200, 828, 4);
        yard.light();
        checks.same("steps to go", yard.wouldEnd(), 18);
        while (yard.burn(1)) {
            continue;
        }
        yard.burn(30);
        checks.same("broken ones", yard.unload(), 0);
        checks.same("it is BISQUE", yard.ofPot(pot, 0), 2);

        checks.same("it melts at", yard.dip(pot, glaze), 2);
        yard.set(pot, 1, 0);
        yard.light();
        checks.same("out of its program", yard.burn(60), false);
        yard.unload();
        checks.same("it is DONE", yard.ofPot(pot, 0), 4);
        checks.same("it has no marks", yard.ofPot(pot, 2), 0);
        checks.same("its colour", yard.ofPot(pot, 6), 2);

        int order = yard.order(glaze, 2, 5, 20);
        checks.same("it brings", yard.meet(order, pot), 20);
        checks.same("the purse", yard.many(12), 20);
    }

    private static void whatIsRefused() {
        KilnYard yard = new KilnYard();
        checks.outOfBounds("no such pot", yard, () -> yard.water(0));
        checks.badArgument("too many steps", yard, () -> yard.burn(61));
        checks.badState("no ramp yet", yard, () -> yard.light());
    }
}
