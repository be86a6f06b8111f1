/** A yard in which pots are dried, fired and sold. */
public final class KilnYard {
    private static final int NONE = -1;

    private static final int MOST_CLAYS = 3;
    private static final int MOST_GLAZES = 4;
    private static final int MOST_POTS = 14;
    private static final int MOST_RAMPS = 5;
    private static final int MOST_ORDERS = 6;
    private static final int MOST_STEPS = 60;
    private static final int MOST_STEPS_FORESEEN = 300;
    private static final int LAST_DAY = 200;
    private static final int SHELVES = 3;
    private static final int CELLS = 10;

    // States of a pot.
    private static final int WET = 0;
    private static final int DRY = 1;
    private static final int BISQUE = 2;
    private static final int GLAZED = 3;
    private static final int DONE = 4;
    private static final int BROKEN = 5;
    private static final int SOLD = 6;

    // Marks of a pot.
    private static final int BURST = 1;
    private static final int CRACKED = 2;
    private static final int SLUMPED = 4;
    private static final int DULL = 8;
    private static final int RUN = 16;
    private static final int CRAZED = 32;
    private static final int SHIVERED = 64;

    // How much work each cone takes, from cone 1 on.
    private static final int[] CONE_WORKS = {8, 16, 28, 44, 64, 88, 116, 148, 184, 224, 268, 316};

    // What has not been told yet is null in these rows; what has stands without a gap from 0 on.
    private final Clay[] clays = new Clay[MOST_CLAYS];
    private final Glaze[] glazes = new Glaze[MOST_GLAZES];
    private final Pot[] pots = new Pot[MOST_POTS];
    private final Order[] orders = new Order[MOST_ORDERS];
    private int clayCount = 0;
    private int glazeCount = 0;
    private int potCount = 0;
    private int orderCount = 0;

    private final Program program = new Program();
    private final Kiln real = new Kiln(program);
    // What would be is tried out here, so that the real kiln stays as it is.
    private final Kiln trial = new Kiln(program);

    private int day = 0;
    private int purse = 0;
    private int refused = 0;

    public KilnYard() {
    }

    // ---- what is told

    public int clay(int top, int growth) throws IllegalArgumentException, IllegalStateException {
        if (!isWithin(top, 1, 12) || !isWithin(growth, 8, 40)) {
            throw new IllegalArgumentException("top or growth out of range");
        }
        if (clayCount >= clays.length) {
            throw new IllegalStateException("no room for a clay");
        }
        clays[clayCount] = new Clay(top, growth);
        clayCount++;
        return clayCount - 1;
    }

    public int glaze(int soda, int lime, int alumina, int silica, int iron)
            throws IllegalArgumentException, IllegalStateException {
        if (!isPart(soda) || !isPart(lime) || !isPart(alumina) || !isPart(silica) || !isPart(iron)) {
            throw new IllegalArgumentException("part out of range");
        }
        if (soda == 0 && lime == 0) {
            throw new IllegalArgumentException("neither soda nor lime");
        }
        if (glazeCount >= glazes.length) {
            throw new IllegalStateException("no room for a glaze");
        }
        glazes[glazeCount] = new Glaze(glazeCount, soda, lime, alumina, silica, iron);
        glazeCount++;
        return glazeCount - 1;
    }

    public int pot(int clay, int width, int height, int wall)
            throws IndexOutOfBoundsException, IllegalArgumentException, IllegalStateException {
        Clay of = clayAt(clay);
        boolean isWall = wall == 1 || wall == 2 || wall == 4;
        if (!isWithin(width, 1, 5) || !isWithin(height, 1, 3) || !isWall) {
            throw new IllegalArgumentException("width, height or wall out of range");
        }
        if (potCount >= pots.length) {
            throw new IllegalStateException("no room for a pot");
        }
        pots[potCount] = new Pot(of, width, height, wall);
        potCount++;
        return potCount - 1;
    }

    public boolean cover(int pot, boolean is) throws IndexOutOfBoundsException {
        Pot it = potAt(pot);
        boolean was = it.isCovered;
        it.isCovered = is;
        return was;
    }

    public int dry(int days, int air) throws IllegalArgumentException, IllegalStateException {
        if (!isWithin(days, 1, 20) || !isWithin(air, 1, 8)) {
            throw new IllegalArgumentException("days or air out of range");
        }
        if (day + days > LAST_DAY) {
            throw new IllegalStateException("no such day");
        }
        for (int i = 0; i < days; i++) {
            dryOneDay(air);
        }
        return potsInState(DRY);
    }

    public int dip(int pot, int glaze) throws IndexOutOfBoundsException, IllegalStateException {
        Pot it = potAt(pot);
        Glaze with = glazeAt(glaze);
        if (it.state != BISQUE) {
            throw new IllegalStateException("not bisque");
        }
        it.glaze = with;
        it.state = GLAZED;
        return with.melts;
    }

    public int set(int pot, int shelf, int cell) throws IndexOutOfBoundsException, IllegalStateException {
        Pot it = potAt(pot);
        testShelf(shelf);
        if (!isWithin(cell, 0, CELLS - 1)) {
            throw new IndexOutOfBoundsException("no such cell");
        }
        if (!real.isInReach() || !it.canBeSet() || it.height > heightOf(shelf)) {
            throw new IllegalStateException("the pot can't be set there");
        }
        boolean isFree = (takenCells(shelf) & cellsFrom(cell, it.width)) == 0;
        if (cell + it.width > CELLS || !isFree) {
            throw new IllegalStateException("the cells are not free");
        }
        it.shelf = shelf;
        it.cell = cell;
        return freeCells(shelf);
    }

    public int take(int pot) throws IndexOutOfBoundsException, IllegalStateException {
        Pot it = potAt(pot);
        if (!real.isInReach() || it.shelf == NONE) {
            throw new IllegalStateException("the pot can't be taken");
        }
        int was = it.shelf;
        it.leaveShelf();
        return was;
    }

    // ---- the kiln

    public int ramp(int rate, int target, int hold) throws IllegalArgumentException, IllegalStateException {
        if (!isWithin(rate, 10, 200) || !isWithin(target, 100, 1400) || !isWithin(hold, 0, 20)) {
            throw new IllegalArgumentException("rate, target or hold out of range");
        }
        if (real.isLit || program.count >= program.ramps.length) {
            throw new IllegalStateException("the kiln is lit or the program full");
        }
        program.ramps[program.count] = new Ramp(rate, target, hold);
        program.count++;
        return program.count - 1;
    }

    public int forget() throws IllegalStateException {
        if (real.isLit) {
            throw new IllegalStateException("the kiln is lit");
        }
        int were = program.count;
        program.count = 0;
        return were;
    }

    public int light() throws IllegalStateException {
        if (real.isLit || program.count == 0) {
            throw new IllegalStateException("the kiln is lit or has no program");
        }
        real.kindle();
        int standing = 0;
        for (int shelf = 0; shelf < SHELVES; shelf++) {
            standing += potsOn(shelf);
        }
        return standing;
    }

    public boolean burn(int steps) throws IllegalArgumentException {
        testSteps(steps);
        for (int i = 0; i < steps; i++) {
            real.step();
            heatPots();
        }
        return real.isLit;
    }

    public int damper(int damper) throws IllegalArgumentException {
        if (!isWithin(damper, 0, 4)) {
            throw new IllegalArgumentException("damper out of range");
        }
        int was = real.damper;
        real.damper = damper;
        return was;
    }

    public boolean door(boolean isOpen) {
        boolean was = real.isOpen;
        real.isOpen = isOpen;
        return was;
    }

    public int bell() {
        refused++;
        return refused;
    }

    public int unload() throws IllegalStateException {
        if (!real.isInReach()) {
            throw new IllegalStateException("the kiln is lit or hot");
        }
        int broken = 0;
        for (Pot it : pots) {
            if (it != null && it.shelf != NONE) {
                it.fire(real.coneOf(it.shelf));
                it.leaveShelf();
                broken += it.state == BROKEN ? 1 : 0;
            }
        }
        real.clearWorks();
        return broken;
    }

    // ---- orders

    public int order(int glaze, int colour, int days, int price)
            throws IndexOutOfBoundsException, IllegalArgumentException, IllegalStateException {
        Glaze of = glazeAt(glaze);
        if (!isWithin(colour, 0, 2) || !isWithin(days, 0, 60) || !isWithin(price, 1, 99)) {
            throw new IllegalArgumentException("colour, days or price out of range");
        }
        if (orderCount >= orders.length) {
            throw new IllegalStateException("no room for an order");
        }
        orders[orderCount] = new Order(of.number, colour, day + days, price);
        orderCount++;
        return orderCount - 1;
    }

    public int meet(int order, int pot) throws IndexOutOfBoundsException, IllegalStateException {
        Order wanted = orderAt(order);
        Pot it = potAt(pot);
        if (wanted.isMet || it.state != DONE) {
            throw new IllegalStateException("the order is met or the pot not done");
        }
        if (it.glazeNumber() != wanted.glaze || it.colour() != wanted.colour) {
            throw new IllegalStateException("not what is ordered");
        }
        int brings = wanted.worthOf(it, day);
        wanted.isMet = true;
        it.state = SOLD;
        purse += brings;
        return brings;
    }

    // ---- what is asked

    public int ofPot(int pot, int what) throws IndexOutOfBoundsException, IllegalArgumentException {
        Pot it = potAt(pot);
        switch (what) {
            case 0: return it.state;
            case 1: return it.glazeNumber();
            case 2: return it.marks;
            case 3: return it.shelf;
            case 4: return it.cell;
            case 5: return it.smoke;
            case 6: return it.colour();
            case 7: return it.isCovered ? 1 : 0;
            default: throw new IllegalArgumentException("nothing to ask of a pot");
        }
    }

    public double water(int pot) throws IndexOutOfBoundsException {
        return potAt(pot).water;
    }

    public double ofGlaze(int glaze, int what) throws IndexOutOfBoundsException, IllegalArgumentException {
        Glaze it = glazeAt(glaze);
        switch (what) {
            case 0: return it.growth;
            case 1: return it.silicaToAlumina();
            case 2: return it.melts;
            default: throw new IllegalArgumentException("nothing to ask of a glaze");
        }
    }

    public double kiln(int what) throws IllegalArgumentException {
        switch (what) {
            case 0: return real.heat;
            case 1: return real.power;
            case 2: return real.gives();
            case 3: return real.workOf(0);
            case 4: return real.workOf(1);
            case 5: return real.workOf(2);
            default: throw new IllegalArgumentException("nothing to ask of the kiln");
        }
    }

    public int ofShelf(int shelf, int what) throws IndexOutOfBoundsException, IllegalArgumentException {
        testShelf(shelf);
        switch (what) {
            case 0: return real.coneOf(shelf);
            case 1: return freeCells(shelf);
            case 2: return potsOn(shelf);
            case 3: return longestFreeRow(shelf);
            default: throw new IllegalArgumentException("nothing to ask of a shelf");
        }
    }

    public int many(int what) throws IllegalArgumentException {
        switch (what) {
            case 0: return day;
            case 1: return real.clock;
            case 2: return real.isLit ? 1 : 0;
            case 3: return real.isLit ? real.at : NONE;
            case 4: return real.isLit ? real.held : 0;
            case 5: return program.count;
            case 6: return potCount;
            case 7: return potsInState(DONE);
            case 8: return potsInState(BROKEN);
            case 9: return potsInState(SOLD);
            case 10: return real.fuel;
            case 11: return real.stalls;
            case 12: return purse;
            case 13: return openOrders();
            case 14: return refused;
            case 15: return real.isOpen ? 1 : 0;
            default: throw new IllegalArgumentException("nothing to count");
        }
    }

    // ---- what would be (nothing is changed)

    public int wouldCone(int shelf, int steps) throws IndexOutOfBoundsException, IllegalArgumentException {
        testShelf(shelf);
        testSteps(steps);
        trial.becomeLike(real);
        for (int i = 0; i < steps; i++) {
            trial.step();
        }
        return trial.coneOf(shelf);
    }

    public int wouldEnd() {
        trial.becomeLike(real);
        for (int steps = 0; steps < MOST_STEPS_FORESEEN; steps++) {
            if (!trial.isLit) {
                return steps;
            }
            trial.step();
        }
        return trial.isLit ? NONE : MOST_STEPS_FORESEEN;
    }

    public int best(int clay, int cone) throws IndexOutOfBoundsException, IllegalArgumentException {
        Clay on = clayAt(clay);
        if (!isWithin(cone, 1, 12)) {
            throw new IllegalArgumentException("no such cone");
        }
        Glaze nearest = null;
        for (Glaze it : glazes) {
            if (it != null && it.marksOn(on, cone) == 0
                    && (nearest == null || it.distanceTo(on) < nearest.distanceTo(on))) {
                nearest = it;
            }
        }
        return nearest == null ? NONE : nearest.number;
    }

    public int wouldHold(int shelf) throws IndexOutOfBoundsException {
        testShelf(shelf);
        int sums = sumsOfWidths(heightOf(shelf));
        for (int sum = longestFreeRow(shelf); sum > 0; sum--) {
            if ((sums >> sum & 1) != 0) {
                return sum;
            }
        }
        return 0;
    }

    public long digest() {
        long d = 58303;
        for (int what = 0; what < 16; what++) {
            d = d * 31 + many(what);
        }
        for (int i = 0; i < potCount; i++) {
            d = withPot(d, i);
        }
        for (int i = 0; i < glazeCount; i++) {
            d = d * 31 + (long) (64.0 * ofGlaze(i, 0));
            d = d * 31 + (long) ofGlaze(i, 2);
        }
        for (int shelf = 0; shelf < SHELVES; shelf++) {
            d = withShelf(d, shelf);
        }
        d = d * 31 + (long) (64.0 * kiln(0));
        d = d * 31 + (long) (64.0 * kiln(1));
        return d * 31 + wouldEnd();
    }

    private long withPot(long d, int pot) {
        for (int what = 0; what < 8; what++) {
            d = d * 31 + ofPot(pot, what);
        }
        return d * 31 + (long) (64.0 * water(pot));
    }

    private long withShelf(long d, int shelf) {
        for (int what = 0; what < 4; what++) {
            d = d * 31 + ofShelf(shelf, what);
        }
        d = d * 31 + wouldHold(shelf);
        return d * 31 + wouldCone(shelf, 20);
    }

    // ---- what the calls lean on

    private static boolean isWithin(int x, int low, int high) {
        return x >= low && x <= high;
    }

    private static boolean isPart(int part) {
        return isWithin(part, 0, 60);
    }

    private static void testShelf(int shelf) {
        if (!isWithin(shelf, 0, SHELVES - 1)) {
            throw new IndexOutOfBoundsException("no such shelf");
        }
    }

    private static void testSteps(int steps) {
        if (!isWithin(steps, 1, MOST_STEPS)) {
            throw new IllegalArgumentException("steps out of range");
        }
    }

    private Clay clayAt(int clay) {
        Clay it = clay >= 0 && clay < clays.length ? clays[clay] : null;
        if (it == null) {
            throw new IndexOutOfBoundsException("no such clay");
        }
        return it;
    }

    private Glaze glazeAt(int glaze) {
        Glaze it = glaze >= 0 && glaze < glazes.length ? glazes[glaze] : null;
        if (it == null) {
            throw new IndexOutOfBoundsException("no such glaze");
        }
        return it;
    }

    private Pot potAt(int pot) {
        Pot it = pot >= 0 && pot < pots.length ? pots[pot] : null;
        if (it == null) {
            throw new IndexOutOfBoundsException("no such pot");
        }
        return it;
    }

    private Order orderAt(int order) {
        Order it = order >= 0 && order < orders.length ? orders[order] : null;
        if (it == null) {
            throw new IndexOutOfBoundsException("no such order");
        }
        return it;
    }

    private void dryOneDay(int air) {
        day++;
        for (Pot it : pots) {
            if (it != null) {
                it.loseWater(air);
            }
        }
    }

    private void heatPots() {
        boolean isSmoky = real.damper >= 3;
        for (Pot it : pots) {
            if (it != null && it.shelf != NONE) {
                double before = Kiln.hotAt(it.shelf, real.heatBefore);
                double hot = Kiln.hotAt(it.shelf, real.heat);
                it.feel(before, hot, isSmoky);
            }
        }
    }

    private int potsInState(int state) {
        int count = 0;
        for (Pot it : pots) {
            count += it != null && it.state == state ? 1 : 0;
        }
        return count;
    }

    private int potsOn(int shelf) {
        int count = 0;
        for (Pot it : pots) {
            count += it != null && it.shelf == shelf ? 1 : 0;
        }
        return count;
    }

    private int openOrders() {
        int count = 0;
        for (Order it : orders) {
            count += it != null && !it.isMet ? 1 : 0;
        }
        return count;
    }

    private static int heightOf(int shelf) {
        return shelf == 2 ? 2 : 3;
    }

    /** A set of cells, the sum of 2^cell. */
    private static int cellsFrom(int cell, int width) {
        return ((1 << width) - 1) << cell;
    }

    private int takenCells(int shelf) {
        int taken = 0;
        for (Pot it : pots) {
            if (it != null && it.shelf == shelf) {
                taken |= cellsFrom(it.cell, it.width);
            }
        }
        return taken;
    }

    private int freeCells(int shelf) {
        return CELLS - Integer.bitCount(takenCells(shelf));
    }

    private int longestFreeRow(int shelf) {
        int taken = takenCells(shelf);
        int longest = 0;
        int row = 0;
        for (int cell = 0; cell < CELLS; cell++) {
            row = (taken >> cell & 1) == 0 ? row + 1 : 0;
            longest = Math.max(longest, row);
        }
        return longest;
    }

    /** The sums up to CELLS that widths of pots ready for a shelf of that height have, as the sum of 2^sum. */
    private int sumsOfWidths(int height) {
        int sums = 1;
        for (Pot it : pots) {
            if (it != null && it.isReady() && it.height <= height) {
                // Sums that no shelf has room for are cut off, lest the bits run out.
                sums |= sums << it.width & cellsFrom(0, CELLS + 1);
            }
        }
        return sums;
    }

    private static final class Clay {
        final int top;
        final double growth;

        Clay(int top, int quarters) {
            this.top = top;
            this.growth = quarters / 4.0;
        }
    }

    private static final class Glaze {
        final int number;
        final int alumina;
        final int silica;
        final int iron;
        final int melts;
        final double growth;

        /** Soda or lime is above 0. */
        Glaze(int number, int soda, int lime, int alumina, int silica, int iron) {
            this.number = number;
            this.alumina = alumina;
            this.silica = silica;
            this.iron = iron;
            double flux = soda + lime;
            this.melts = Math.min(12, rounded(1.5 * (alumina / flux) + 0.5 * (silica / flux)));
            double parts = soda + lime + alumina + silica;
            this.growth = (8.0 * soda + 4.0 * lime + 2.0 * alumina + silica) / parts;
        }

        /** To the nearest whole number, of two the even one; x is not negative. */
        private static int rounded(double x) {
            int whole = (int) x;
            double rest = x - whole;
            boolean isUp = rest > 0.5 || rest == 0.5 && whole % 2 != 0;
            return isUp ? whole + 1 : whole;
        }

        double silicaToAlumina() {
            return alumina == 0 ? 99.0 : (double) silica / (double) alumina;
        }

        /** The marks that it has on that clay when it is done with that cone. */
        int marksOn(Clay clay, int cone) {
            int marks = 0;
            marks |= cone < melts ? DULL : 0;
            marks |= cone > melts + 2 ? RUN : 0;
            marks |= growth - clay.growth > 2.0 ? CRAZED : 0;
            marks |= clay.growth - growth > 2.0 ? SHIVERED : 0;
            return marks;
        }

        double distanceTo(Clay clay) {
            double distance = growth - clay.growth;
            return distance < 0 ? -distance : distance;
        }
    }

    private static final class Pot {
        final Clay clay;
        final int width;
        final int height;
        final int wall;
        // Null until it is dipped.
        Glaze glaze = null;
        int state = WET;
        float water = 8f;
        boolean isCovered = false;
        int smoke = 0;
        int marks = 0;
        int shelf = NONE;
        int cell = NONE;

        /** The wall is above 0. */
        Pot(Clay clay, int width, int height, int wall) {
            this.clay = clay;
            this.width = width;
            this.height = height;
            this.wall = wall;
        }

        int glazeNumber() {
            return glaze == null ? NONE : glaze.number;
        }

        int colour() {
            if (glaze == null || state != DONE && state != SOLD) {
                return NONE;
            }
            if (glaze.iron < 5) {
                return 0;
            }
            return smoke >= 4 ? 1 : 2;
        }

        boolean canBeSet() {
            return shelf == NONE && (state == WET || state == DRY || state == GLAZED);
        }

        /** Whether it may wait for a firing: dry or glazed, and on no shelf. */
        boolean isReady() {
            return canBeSet() && state != WET;
        }

        void leaveShelf() {
            shelf = NONE;
            cell = NONE;
        }

        /** A day goes by. */
        void loseWater(int air) {
            if (state != WET || shelf != NONE) {
                return;
            }
            float loss = (float) air / 2f / (float) wall;
            if (isCovered) {
                loss = loss / 2f;
            }
            if (loss > water) {
                loss = water;
            }
            water = water - loss;
            if (loss > 1.5f) {
                marks |= CRACKED;
            }
            if (water <= 0.25f) {
                state = DRY;
            }
        }

        /** A step goes by, in which its shelf went from one heat to another. */
        void feel(double before, double hot, boolean isSmoky) {
            if (state == BROKEN) {
                return;
            }
            if (state == WET && hot > 100.0) {
                marks |= BURST;
                state = BROKEN;
                return;
            }
            double change = hot < before ? before - hot : hot - before;
            boolean isOver = before < 573.0 && hot >= 573.0 || before > 573.0 && hot <= 573.0;
            if (isOver && change > 128.0 / (double) wall) {
                marks |= CRACKED;
            }
            if (isSmoky && hot >= 800.0) {
                smoke++;
            }
        }

        /** It comes out of the kiln. */
        void fire(int cone) {
            boolean isFired = state == DRY && cone >= 2 || state == GLAZED && cone >= 1;
            if (!isFired) {
                return;
            }
            if (cone > clay.top) {
                marks |= SLUMPED;
                state = BROKEN;
            } else if (glaze == null) {
                state = BISQUE;
            } else {
                marks |= glaze.marksOn(clay, cone);
                state = DONE;
            }
        }
    }

    private static final class Order {
        final int glaze;
        final int colour;
        final int due;
        final int price;
        boolean isMet = false;

        Order(int glaze, int colour, int due, int price) {
            this.glaze = glaze;
            this.colour = colour;
            this.due = due;
            this.price = price;
        }

        int worthOf(Pot pot, int day) {
            int worth = pot.marks == 0 ? price : price / 2;
            int late = Math.max(0, day - due);
            return Math.max(0, worth - late);
        }
    }

    private static final class Ramp {
        final int rate;
        final int target;
        final int hold;

        Ramp(int rate, int target, int hold) {
            this.rate = rate;
            this.target = target;
            this.hold = hold;
        }
    }

    private static final class Program {
        final Ramp[] ramps = new Ramp[MOST_RAMPS];
        int count = 0;

        /** Null, if there is no such ramp. */
        Ramp rampAt(int number) {
            return number >= 0 && number < count && number < ramps.length ? ramps[number] : null;
        }
    }

    private static final class Kiln {
        final Program program;
        double heat = 20.0;
        double heatBefore = 20.0;
        float power = 1f;
        int damper = 0;
        boolean isOpen = false;
        boolean isLit = false;
        int at = 0;
        int held = 0;
        int clock = 0;
        int fuel = 0;
        int stalls = 0;
        final double[] works = new double[SHELVES];

        Kiln(Program program) {
            this.program = program;
        }

        /** Takes over all that the steps to come depend on. */
        void becomeLike(Kiln other) {
            heat = other.heat;
            power = other.power;
            isOpen = other.isOpen;
            isLit = other.isLit;
            at = other.at;
            held = other.held;
            for (int shelf = 0; shelf < works.length; shelf++) {
                works[shelf] = other.workOf(shelf);
            }
        }

        static double hotAt(int shelf, double heat) {
            if (shelf == 0) {
                return heat - 12.0;
            }
            return shelf == 1 ? heat : heat + 8.0;
        }

        /** Whether pots can be moved by hand. */
        boolean isInReach() {
            return !isLit && heat < 100.0;
        }

        double gives() {
            double gives = (double) power * 90.0 - (heat - 20.0) / 16.0;
            return isOpen ? gives - 50.0 : gives;
        }

        double workOf(int shelf) {
            return shelf >= 0 && shelf < works.length ? works[shelf] : 0.0;
        }

        int coneOf(int shelf) {
            double work = workOf(shelf);
            int cone = 0;
            for (int needed : CONE_WORKS) {
                cone += work >= needed ? 1 : 0;
            }
            return cone;
        }

        void kindle() {
            isLit = true;
            at = 0;
            held = 0;
        }

        void step() {
            heatBefore = heat;
            passRamps();
            Ramp ramp = isLit ? program.rampAt(at) : null;
            if (ramp == null) {
                coolDown();
            } else {
                follow(ramp);
                payFuel();
            }
            addWork();
            clock++;
        }

        private void passRamps() {
            for (int i = 0; isLit && i < MOST_RAMPS; i++) {
                Ramp ramp = program.rampAt(at);
                if (ramp != null && (heat != ramp.target || held != ramp.hold)) {
                    return;
                }
                at++;
                held = 0;
                isLit = at < program.count;
            }
        }

        private void follow(Ramp ramp) {
            if (heat < ramp.target) {
                rise(ramp);
            } else if (heat > ramp.target) {
                fall(ramp);
            } else {
                held++;
            }
        }

        private void rise(Ramp ramp) {
            double gives = gives();
            if (gives < 1.0) {
                isLit = false;
                stalls++;
                return;
            }
            double next = heat + (gives < ramp.rate ? gives : ramp.rate);
            heat = next > ramp.target ? ramp.target : next;
        }

        private void fall(Ramp ramp) {
            double loss = (heat - 20.0) / 8.0;
            double next = heat - (loss < ramp.rate ? loss : ramp.rate);
            heat = next < ramp.target ? ramp.target : next;
        }

        private void coolDown() {
            heat = heat - (heat - 20.0) / (isOpen ? 2.0 : 8.0);
        }

        private void payFuel() {
            int ofDay = clock % 96;
            fuel += ofDay >= 32 && ofDay <= 79 ? 2 : 1;
        }

        private void addWork() {
            for (int shelf = 0; shelf < works.length; shelf++) {
                double hot = hotAt(shelf, heat);
                if (hot > 700.0) {
                    works[shelf] += (hot - 700.0) / 32.0;
                }
            }
        }

        void clearWorks() {
            boolean isWorn = false;
            for (int shelf = 0; shelf < works.length; shelf++) {
                if (works[shelf] > 0.0) {
                    isWorn = true;
                }
                works[shelf] = 0.0;
            }
            if (isWorn) {
                power = 63f / 64f * power;
            }
        }
    }
}
