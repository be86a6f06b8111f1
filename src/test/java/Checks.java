/** Counts what is as due, and prints what is not. */
final class Checks {
    /** A call whose answer does not matter. */
    interface Call {
        void make();
    }

    private int passed = 0;
    private int failed = 0;

    void same(String what, long got, long due) {
        count(got == due, what + " answered " + got + ", due is " + due);
    }

    void same(String what, double got, double due) {
        count(got == due, what + " answered " + got + ", due is " + due);
    }

    /** For a heat that is just beside a boundary. */
    void between(String what, double got, double low, double high) {
        count(got > low && got < high, what + " answered " + got + ", due is between " + low + " and " + high);
    }

    void same(String what, boolean got, boolean due) {
        count(got == due, what + " answered " + got + ", due is " + due);
    }

    void same(String what, String got, String due) {
        count(got.equals(due), what + " answered " + got + ", due is " + due);
    }

    void outOfBounds(String what, KilnYard yard, Call call) {
        refused(what, yard, IndexOutOfBoundsException.class, call);
    }

    void badArgument(String what, KilnYard yard, Call call) {
        refused(what, yard, IllegalArgumentException.class, call);
    }

    void badState(String what, KilnYard yard, Call call) {
        refused(what, yard, IllegalStateException.class, call);
    }

    /** The call throws just that, and the yard stays as it was. */
    private void refused(String what, KilnYard yard, Class<? extends RuntimeException> due, Call call) {
        String before = Snapshot.of(yard);
        String got = "nothing";
        try {
            call.make();
        } catch (RuntimeException e) {
            got = e.getClass().getName();
        }
        same(what + " throws", got, due.getName());
        same(what + " leaves the yard", Snapshot.of(yard), before);
    }

    private void count(boolean isRight, String message) {
        if (isRight) {
            passed++;
        } else {
            failed++;
            System.out.println(message);
        }
    }

    /** The last call of a test's main method. */
    void end() {
        System.out.println(passed + " checks as due, " + failed + " not");
        if (failed > 0 || passed == 0) {
            System.exit(1);
        }
    }
}
