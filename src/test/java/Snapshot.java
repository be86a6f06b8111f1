/**
 * What a yard tells of its state, as a text. It is told in few calls, as a
 * yard is only good for 512: the digest holds most of it.
 */
final class Snapshot {
    private Snapshot() {
    }

    static String of(KilnYard yard) {
        StringBuilder all = new StringBuilder();
        all.append(yard.digest());
        for (int what = 0; what < 6; what++) {
            all.append(' ').append(yard.kiln(what));
        }
        int damper = yard.damper(0);
        yard.damper(damper);
        all.append(" damper ").append(damper).append(" clays ").append(clays(yard));
        return all.toString();
    }

    private static int clays(KilnYard yard) {
        for (int clay = 0; clay < 3; clay++) {
            try {
                yard.best(clay, 1);
            } catch (IndexOutOfBoundsException e) {
                return clay;
            }
        }
        return 3;
    }
}
