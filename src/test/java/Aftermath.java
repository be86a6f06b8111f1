/**
 * What a yard answers to a run of some 190 calls that ask, sell, tell, fire and
 * handle all that it holds, as a text. Two yards of one text are in one state
 * even in what cannot be asked for, as the price of an order.
 */
final class Aftermath {
    private interface Call {
        long answer();
    }

    private final KilnYard yard;
    private final StringBuilder answers = new StringBuilder();

    private Aftermath(KilnYard yard) {
        this.yard = yard;
    }

    static String of(KilnYard yard) {
        Aftermath it = new Aftermath(yard);
        it.ask();
        it.sell();
        it.tell();
        it.fire();
        it.handle();
        it.ask();
        return it.answers.toString();
    }

    private void ask() {
        answers.append(Snapshot.of(yard)).append('\n');
    }

    private void sell() {
        int pots = yard.many(6);
        for (int order = 0; order < 6; order++) {
            for (int pot = 0; pot < pots; pot++) {
                int wanted = order;
                int with = pot;
                note(() -> yard.meet(wanted, with));
            }
        }
    }

    private void tell() {
        note(() -> yard.clay(12, 12));
        note(() -> yard.glaze(1, 1, 2, 1, 5));
        note(() -> yard.pot(0, 5, 3, 1));
        note(() -> yard.order(0, 0, 0, 9));
        note(() -> yard.ramp(200, 900, 1));
    }

    private void fire() {
        note(yard::light);
        yard.burn(1);
        ask();
        yard.burn(60);
        yard.burn(60);
        yard.door(true);
        yard.burn(60);
        yard.door(false);
        note(yard::unload);
    }

    private void handle() {
        note(() -> yard.dry(2, 3));
        int pots = yard.many(6);
        for (int i = 0; i < pots; i++) {
            int pot = i;
            note(() -> yard.cover(pot, true) ? 1 : 0);
            note(() -> yard.dip(pot, 0));
            note(() -> yard.set(pot, pot % 3, pot % 5 * 2));
        }
    }

    private void note(Call call) {
        try {
            answers.append(call.answer());
        } catch (IndexOutOfBoundsException | IllegalArgumentException | IllegalStateException e) {
            answers.append(e.getClass().getSimpleName());
        }
        answers.append(' ');
    }
}
