/**
 * Checks of calls that must change nothing: "A method that throws an exception
 * changes nothing.", nor does one that asks. Of two yards made alike only one
 * gets the call; what both answer behind it must be the same.
 */
final class Twins {
    interface Make {
        KilnYard yard();
    }

    interface Call {
        void on(KilnYard yard);
    }

    private final Checks checks;

    Twins(Checks checks) {
        this.checks = checks;
    }

    /** Of what is not low to high: the first number on either side, and the outermost ones. */
    static int[] outside(int low, int high) {
        return new int[] {low - 1, high + 1, Integer.MIN_VALUE, Integer.MAX_VALUE};
    }

    void outOfBounds(String what, Make make, Call call) {
        refused(what, IndexOutOfBoundsException.class, make, call);
    }

    void badArgument(String what, Make make, Call call) {
        refused(what, IllegalArgumentException.class, make, call);
    }

    void badState(String what, Make make, Call call) {
        refused(what, IllegalStateException.class, make, call);
    }

    /** The call is not refused, and changes nothing. */
    void unchanged(String what, Make make, Call call) {
        KilnYard yard = make.yard();
        call.on(yard);
        checks.same(what + " leaves the yard", Aftermath.of(yard), Aftermath.of(make.yard()));
    }

    private void refused(String what, Class<? extends RuntimeException> due, Make make, Call call) {
        KilnYard yard = make.yard();
        String got = "nothing";
        try {
            call.on(yard);
        } catch (RuntimeException e) {
            got = e.getClass().getName();
        }
        checks.same(what + " throws", got, due.getName());
        checks.same(what + " leaves the yard", Aftermath.of(yard), Aftermath.of(make.yard()));
    }
}
