import java.util.List;

/**
 * Any calls in any state: none throws but what the document lets it throw, one
 * that throws changes nothing, one that asks changes nothing, and the same
 * calls answer the same. The calls are drawn from seeds, so they are the same
 * in every run.
 */
final class AnyCallsTest {
    private static final int RUNS = 800;
    // With a snapshot on both sides of each, as many as a yard is good for.
    private static final int CALLS = 19;
    private static final int[] ODD = {
        Integer.MIN_VALUE, -65536, -2, -1, 0, 1, 2, 3, 4, 5, 6, 7, 9, 10, 13, 14, 15, 16, 20, 60, 61, 99, 100, 200, 1400,
        65536, Integer.MAX_VALUE,
    };
    private static final List<String> CALL_NAMES = List.of("clay", "glaze", "pot", "cover", "dry", "dip", "set", "take",
            "ramp", "forget", "light", "burn", "damper", "door", "bell", "unload", "order", "meet", "ofPot", "water",
            "ofGlaze", "kiln", "ofShelf", "many", "wouldCone", "wouldEnd", "best", "wouldHold", "digest");
    private static final int FIRST_ASKING = CALL_NAMES.indexOf("ofPot");

    private static final Checks checks = new Checks();

    private final KilnYard yard = new KilnYard();
    private final StringBuilder answers = new StringBuilder();
    private long seed;
    private int thrown = 0;

    private AnyCallsTest(long seed) {
        this.seed = seed;
    }

    public static void main(String[] args) {
        int thrown = 0;
        for (int run = 0; run < RUNS; run++) {
            AnyCallsTest once = new AnyCallsTest(run);
            AnyCallsTest again = new AnyCallsTest(run);
            once.makeCalls();
            again.makeCalls();
            checks.same("run " + run + " again", again.answers.toString(), once.answers.toString());
            thrown += once.thrown;
        }
        checks.same("some calls throw, some don't", thrown > 1000 && thrown < RUNS * CALLS - 1000, true);
        checks.end();
    }

    private void makeCalls() {
        if (below(4) > 0) {
            furnish();
        }
        for (int i = 0; i < CALLS; i++) {
            makeCall(below(CALL_NAMES.size()));
        }
    }

    /** Without this most calls would find nothing to be made on. */
    private void furnish() {
        yard.clay(below(12) + 1, below(33) + 8);
        yard.glaze(1 + below(60), below(61), below(61), below(61), below(10));
        for (int pot = 0; pot < 6; pot++) {
            yard.pot(0, 1 + below(5), 1 + below(3), 1 << below(3));
        }
        yard.dry(1 + below(20), 1 + below(8));
        for (int pot = 0; pot < 3; pot++) {
            yard.set(pot, pot % 2, 5 * (pot / 2));
        }
        yard.ramp(200, 100 + below(1301), below(21));
    }

    private void makeCall(int call) {
        String name = CALL_NAMES.get(call);
        String before = Snapshot.of(yard);
        try {
            answers.append(name).append(' ').append(answer(name)).append('\n');
            if (call >= FIRST_ASKING) {
                checks.same(name + " leaves the yard", Snapshot.of(yard), before);
            }
        } catch (IndexOutOfBoundsException | IllegalArgumentException | IllegalStateException e) {
            thrown++;
            answers.append(name).append(' ').append(e.getClass().getName()).append('\n');
            checks.same(name + " leaves the yard as it throws", Snapshot.of(yard), before);
            checks.same(name + " throws by itself", isByItself(e), false);
        }
    }

    /** The class throws just these; what the machine throws is of a class below, or comes from elsewhere. */
    private static boolean isByItself(RuntimeException e) {
        boolean isNamed = e.getClass() == IndexOutOfBoundsException.class
                || e.getClass() == IllegalArgumentException.class || e.getClass() == IllegalStateException.class;
        StackTraceElement[] trace = e.getStackTrace();
        return !isNamed || trace.length == 0 || !trace[0].getClassName().startsWith("KilnYard");
    }

    private double answer(String name) {
        switch (name) {
            case "clay": return yard.clay(any(), any());
            case "glaze": return yard.glaze(any(), any(), any(), any(), any());
            case "pot": return yard.pot(any(), any(), any(), any());
            case "cover": return yard.cover(any(), below(2) == 0) ? 1 : 0;
            case "dry": return yard.dry(any(), any());
            case "dip": return yard.dip(any(), any());
            case "set": return yard.set(any(), any(), any());
            case "take": return yard.take(any());
            case "ramp": return yard.ramp(any(), any(), any());
            case "forget": return yard.forget();
            case "light": return yard.light();
            case "burn": return yard.burn(any()) ? 1 : 0;
            case "damper": return yard.damper(any());
            case "door": return yard.door(below(2) == 0) ? 1 : 0;
            case "bell": return yard.bell();
            case "unload": return yard.unload();
            case "order": return yard.order(any(), any(), any(), any());
            case "meet": return yard.meet(any(), any());
            default: return asked(name);
        }
    }

    private double asked(String name) {
        switch (name) {
            case "ofPot": return yard.ofPot(any(), any());
            case "water": return yard.water(any());
            case "ofGlaze": return yard.ofGlaze(any(), any());
            case "kiln": return yard.kiln(any());
            case "ofShelf": return yard.ofShelf(any(), any());
            case "many": return yard.many(any());
            case "wouldCone": return yard.wouldCone(any(), any());
            case "wouldEnd": return yard.wouldEnd();
            case "best": return yard.best(any(), any());
            case "wouldHold": return yard.wouldHold(any());
            case "digest": return yard.digest();
            default: throw new AssertionError(name);
        }
    }

    /** Mostly a small number, so that calls come through; else an odd one. */
    private int any() {
        return below(3) > 0 ? below(6) : ODD[below(ODD.length)];
    }

    private int below(int bound) {
        seed = seed * 6364136223846793005L + 1442695040888963407L;
        return (int) ((seed >>> 33) % bound);
    }
}
