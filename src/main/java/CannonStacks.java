/** Cannon balls of a bastion, stacked in pyramids by calibre. */
public final class CannonStacks {
    private static final int CALIBRES = 5;
    private static final int MOST_PILES = 6;
    private static final int MOST_SIDE = 6;
    private static final int MOST_BALLS_OF_A_PILE = 91;
    private static final int MOST_CATS = 3;
    private static final int MOST_LEAP = 5;
    private static final int MOST_GIVEN = 99;
    private static final int MOST_RAIN = 3;
    private static final int MOST_RUST = 9;
    private static final int FIRST_LIMIT = 6;
    private static final int SCOURED_RUST = 3;
    private static final int MOST_TOLD_SIDE = 20;
    private static final int MOST_TOLD_BALLS = 2870;
    private static final int MOST_DAYS_PASSED = 60;
    private static final int MOST_DAYS_UNTIL = 40;
    private static final int MOST_DAYS_FORESEEN = 30;
    private static final int ON_THE_GROUND = -1;
    private static final int NONE = -1;
    private static final int COUNTS = 11;
    private static final int TOLD_THINGS = 5;
    private static final int PILE_THINGS = 10;
    private static final int CAT_THINGS = 3;
    private static final int LOOSE = 4;
    private static final int RUSTY = 6;

    private final Pyramid[] pyramids;
    private final Tally store;
    private final Tally fired;
    private final Tally thrownAway;
    private final Yard yard;
    // Days to come are tried out here; it is made once, so that no call makes anything new.
    private final Yard trial;

    public CannonStacks() {
        pyramids = new Pyramid[MOST_SIDE];
        for (int i = 0; i < MOST_SIDE; i++) {
            pyramids[i] = new Pyramid(i + 1);
        }
        store = new Tally();
        fired = new Tally();
        thrownAway = new Tally();
        yard = new Yard(pyramids[0]);
        trial = new Yard(pyramids[0]);
    }

    // ---- the bastion

    public int pile(int calibre, int side) throws IndexOutOfBoundsException, IllegalArgumentException, IllegalStateException {
        checkCalibre(calibre);
        checkArgument(side, 1, MOST_SIDE);
        if (yard.pileCount >= MOST_PILES) {
            throw new IllegalStateException("there are 6 piles");
        }
        int number = yard.pileCount;
        yard.piles[number].begin(calibre, pyramids[side - 1]);
        yard.pileCount++;
        return number;
    }

    public int cat(int leap) throws IllegalArgumentException, IllegalStateException {
        checkArgument(leap, 1, MOST_LEAP);
        if (yard.catCount >= MOST_CATS) {
            throw new IllegalStateException("there are 3 cats");
        }
        int number = yard.catCount;
        yard.cats[number].leap = leap;
        yard.catCount++;
        return number;
    }

    public int give(int calibre, int many) throws IndexOutOfBoundsException, IllegalArgumentException {
        checkCalibre(calibre);
        checkArgument(many, 1, MOST_GIVEN);
        store.add(calibre, many);
        return store.of(calibre);
    }

    public int setRain(int rain) throws IllegalArgumentException {
        checkArgument(rain, 0, MOST_RAIN);
        int before = yard.rain;
        yard.rain = rain;
        return before;
    }

    public int setLimit(int limit) throws IllegalArgumentException {
        checkArgument(limit, 1, MOST_RUST);
        int before = yard.limit;
        yard.limit = limit;
        return before;
    }

    // ---- work

    public int stack(int pile, int many) throws IndexOutOfBoundsException, IllegalArgumentException, IllegalStateException {
        checkPile(pile);
        checkArgument(many, 1, MOST_BALLS_OF_A_PILE);
        Pile stacked = yard.piles[pile];
        if (store.of(stacked.calibre) < many) {
            throw new IllegalStateException("the store has fewer");
        }
        if (stacked.spare() < many) {
            throw new IllegalStateException("there is not so much room");
        }
        for (int i = 0; i < many; i++) {
            stacked.put(0);
        }
        store.add(stacked.calibre, -many);
        return stacked.balls;
    }

    public int fire(int pile, int many) throws IndexOutOfBoundsException, IllegalArgumentException, IllegalStateException {
        checkPile(pile);
        checkArgument(many, 1, MOST_BALLS_OF_A_PILE);
        Pile shot = yard.piles[pile];
        if (shot.balls < many) {
            throw new IllegalStateException("the pile has fewer");
        }
        int rust = 0;
        for (int i = 0; i < many; i++) {
            rust += shot.takeTop();
        }
        fired.add(shot.calibre, many);
        return rust;
    }

    public int scour(int pile) throws IndexOutOfBoundsException {
        checkPile(pile);
        return yard.piles[pile].scourBare();
    }

    public int inspect(int pile) throws IndexOutOfBoundsException {
        checkPile(pile);
        Pile inspected = yard.piles[pile];
        int thrown = inspected.throwAway(yard.limit);
        thrownAway.add(inspected.calibre, thrown);
        return thrown;
    }

    public int shift(int from, int to) throws IndexOutOfBoundsException, IllegalArgumentException {
        checkPile(from);
        checkPile(to);
        if (from == to) {
            throw new IllegalArgumentException("both piles are the same");
        }
        Pile giver = yard.piles[from];
        Pile taker = yard.piles[to];
        if (giver.calibre != taker.calibre) {
            throw new IllegalArgumentException("the calibres are unlike");
        }
        int many = Math.min(giver.balls, taker.spare());
        for (int i = 0; i < many; i++) {
            taker.put(giver.takeTop());
        }
        return many;
    }

    public int gather() {
        int gathered = yard.loose.all();
        for (int calibre = 0; calibre < CALIBRES; calibre++) {
            int many = yard.loose.of(calibre);
            store.add(calibre, many);
            yard.loose.add(calibre, -many);
        }
        return gathered;
    }

    public int chase(int cat) throws IndexOutOfBoundsException {
        checkCat(cat);
        Cat chased = yard.cats[cat];
        int before = chased.on;
        chased.on = ON_THE_GROUND;
        return before;
    }

    // ---- what there is

    public int about(int pile, int what) throws IndexOutOfBoundsException {
        checkPile(pile);
        Pile told = yard.piles[pile];
        switch (what) {
            case 0: return told.calibre;
            case 1: return told.pyramid.edge;
            case 2: return told.balls;
            case 3: return told.pyramid.capacity;
            case 4: return told.pyramid.layersBegun(told.balls);
            case 5: return told.pyramid.layersFull(told.balls);
            case 6: return told.bareBalls();
            case 7: return told.rustyBalls(yard.limit);
            case 8: return told.greatestRust();
            case 9: return told.allRust();
            default: throw new IndexOutOfBoundsException("what is not 0 to 9");
        }
    }

    public int ball(int pile, int ball, int what) throws IndexOutOfBoundsException {
        checkPile(pile);
        Pile told = yard.piles[pile];
        if (isOutside(ball, 0, told.balls - 1)) {
            throw new IndexOutOfBoundsException("there is no such ball");
        }
        switch (what) {
            case 0: return told.rustOf(ball);
            case 1: return told.pyramid.layerOf(ball);
            case 2: return told.pyramid.rowOf(ball);
            case 3: return told.pyramid.placeOf(ball);
            case 4: return told.isCovered(ball) ? 1 : 0;
            case 5: return told.ballsOn(ball);
            default: throw new IndexOutOfBoundsException("what is not 0 to 5");
        }
    }

    public int at(int pile, int layer, int row, int place) throws IndexOutOfBoundsException {
        checkPile(pile);
        Pile told = yard.piles[pile];
        if (isOutside(layer, 0, told.pyramid.edge - 1)) {
            throw new IndexOutOfBoundsException("there is no such layer");
        }
        int width = told.pyramid.edge - layer;
        if (isOutside(row, 0, width - 1)) {
            throw new IndexOutOfBoundsException("there is no such row");
        }
        if (isOutside(place, 0, width - 1)) {
            throw new IndexOutOfBoundsException("there is no such place");
        }
        int ball = told.pyramid.numberOf(layer, row, place);
        return ball < told.balls ? ball : NONE;
    }

    public int told(int calibre, int what) throws IndexOutOfBoundsException {
        checkCalibre(calibre);
        switch (what) {
            case 0: return store.of(calibre);
            case 1: return yard.loose.of(calibre);
            case 2: return yard.ballsOfCalibre(calibre);
            case 3: return fired.of(calibre);
            case 4: return thrownAway.of(calibre);
            default: throw new IndexOutOfBoundsException("what is not 0 to 4");
        }
    }

    public int mouser(int cat, int what) throws IndexOutOfBoundsException {
        checkCat(cat);
        Cat told = yard.cats[cat];
        switch (what) {
            case 0: return told.leap;
            case 1: return told.on;
            case 2: return told.rolledOff;
            default: throw new IndexOutOfBoundsException("what is not 0 to 2");
        }
    }

    public int count(int what) throws IndexOutOfBoundsException {
        switch (what) {
            case 0: return yard.day;
            case 1: return yard.pileCount;
            case 2: return yard.catCount;
            case 3: return store.all();
            case 4:
            case 5:
            case 6: return yard.ballCount(what);
            case 7: return fired.all();
            case 8: return thrownAway.all();
            case 9: return yard.rain;
            case 10: return yard.limit;
            default: throw new IndexOutOfBoundsException("what is not 0 to 10");
        }
    }

    // ---- pyramids

    public int room(int side) throws IllegalArgumentException {
        checkArgument(side, 1, MOST_TOLD_SIDE);
        return Pyramid.squares(side);
    }

    public int side(int many) throws IllegalArgumentException {
        checkArgument(many, 1, MOST_TOLD_BALLS);
        int least = 1;
        while (least < MOST_TOLD_SIDE && Pyramid.squares(least) < many) {
            least++;
        }
        return least;
    }

    // ---- days and what would be

    public int pass(int days) throws IllegalArgumentException {
        checkArgument(days, 1, MOST_DAYS_PASSED);
        return yard.passDays(days);
    }

    public int until(int pile) throws IndexOutOfBoundsException {
        checkPile(pile);
        trial.copyFrom(yard);
        for (int days = 0; days <= MOST_DAYS_UNTIL; days++) {
            if (trial.piles[pile].rustyBalls(trial.limit) > 0) {
                return days;
            }
            trial.passDays(1);
        }
        return NONE;
    }

    public int foresee(int days, int what) throws IllegalArgumentException, IndexOutOfBoundsException {
        checkArgument(days, 1, MOST_DAYS_FORESEEN);
        if (isOutside(what, LOOSE, RUSTY)) {
            throw new IndexOutOfBoundsException("what is not 4 to 6");
        }
        trial.copyFrom(yard);
        trial.passDays(days);
        return trial.ballCount(what);
    }

    public int would(int pile) throws IndexOutOfBoundsException {
        checkPile(pile);
        Pile tried = yard.piles[pile];
        return tried.pyramid.layersBegun(tried.balls - tried.rustyBalls(yard.limit));
    }

    public int advise() {
        int best = NONE;
        int bestRusty = 0;
        int bestBalls = 0;
        for (int i = 0; i < yard.pileCount; i++) {
            int rusty = yard.piles[i].rustyBalls(yard.limit);
            int balls = yard.piles[i].balls;
            if (rusty > bestRusty || rusty > 0 && rusty == bestRusty && balls < bestBalls) {
                best = i;
                bestRusty = rusty;
                bestBalls = balls;
            }
        }
        return best;
    }

    public double mean() {
        int balls = 0;
        int rust = 0;
        for (int i = 0; i < yard.pileCount; i++) {
            balls += yard.piles[i].balls;
            rust += yard.piles[i].allRust();
        }
        return balls == 0 ? 0.0 : (double) rust / (double) balls;
    }

    public long digest() {
        long d = 1811L;
        for (int what = 0; what < COUNTS; what++) {
            d = d * 31L + count(what);
        }
        for (int calibre = 0; calibre < CALIBRES; calibre++) {
            for (int what = 0; what < TOLD_THINGS; what++) {
                d = d * 31L + told(calibre, what);
            }
        }
        for (int i = 0; i < yard.pileCount; i++) {
            d = digestOfPile(d, i);
        }
        for (int i = 0; i < yard.catCount; i++) {
            for (int what = 0; what < CAT_THINGS; what++) {
                d = d * 31L + mouser(i, what);
            }
        }
        return d;
    }

    private long digestOfPile(long before, int number) {
        long d = before;
        for (int what = 0; what < PILE_THINGS; what++) {
            d = d * 31L + about(number, what);
        }
        Pile digested = yard.piles[number];
        for (int ball = 0; ball < digested.balls; ball++) {
            d = d * 31L + digested.rustOf(ball);
        }
        return d;
    }

    private void checkPile(int number) {
        if (isOutside(number, 0, yard.pileCount - 1)) {
            throw new IndexOutOfBoundsException("there is no such pile");
        }
    }

    private void checkCat(int number) {
        if (isOutside(number, 0, yard.catCount - 1)) {
            throw new IndexOutOfBoundsException("there is no such cat");
        }
    }

    private static void checkCalibre(int calibre) {
        if (isOutside(calibre, 0, CALIBRES - 1)) {
            throw new IndexOutOfBoundsException("calibre is not 0 to 4");
        }
    }

    private static void checkArgument(int value, int least, int most) {
        if (isOutside(value, least, most)) {
            throw new IllegalArgumentException("a number is too small or too great");
        }
    }

    private static boolean isOutside(int value, int least, int most) {
        return value < least || value > most;
    }

    /** How many balls there are of each calibre. */
    private static final class Tally {
        private final int[] balls;

        Tally() {
            balls = new int[CALIBRES];
        }

        int of(int calibre) {
            return calibre >= 0 && calibre < balls.length ? balls[calibre] : 0;
        }

        void add(int calibre, int more) {
            if (calibre >= 0 && calibre < balls.length) {
                balls[calibre] += more;
            }
        }

        int all() {
            int all = 0;
            for (int i = 0; i < balls.length; i++) {
                all += balls[i];
            }
            return all;
        }

        void copyFrom(Tally other) {
            System.arraycopy(other.balls, 0, balls, 0, CALIBRES);
        }
    }

    /** The shape that all piles with one side share: which number lies where, and on what. */
    private static final class Pyramid {
        final int edge;
        final int capacity;
        // The number of the first ball of each layer, and behind the last layer the capacity.
        private final int[] starts;
        // Of those that lie on a ball in a full pyramid, the least number: balls come and go by
        // their numbers, so a ball is covered just as long as that one is there. The last ball's
        // is the capacity, a number that no ball has.
        private final int[] coverers;

        Pyramid(int edge) {
            this.edge = edge;
            capacity = squares(edge);
            starts = new int[edge + 1];
            for (int layer = 0; layer <= edge; layer++) {
                starts[layer] = capacity - squares(edge - layer);
            }
            coverers = new int[capacity];
            for (int layer = 0; layer < edge; layer++) {
                int width = edge - layer;
                for (int row = 0; row < width; row++) {
                    for (int place = 0; place < width; place++) {
                        coverers[starts[layer] + row * width + place] =
                            starts[layer + 1] + Math.max(row - 1, 0) * (width - 1) + Math.max(place - 1, 0);
                    }
                }
            }
        }

        static int squares(int most) {
            return most * (most + 1) * (2 * most + 1) / 6;
        }

        int numberOf(int layer, int row, int place) {
            return startOf(layer) + row * (edge - layer) + place;
        }

        private int startOf(int layer) {
            return layer >= 0 && layer < starts.length ? starts[layer] : capacity;
        }

        int firstOn(int ball) {
            return ball >= 0 && ball < coverers.length ? coverers[ball] : capacity;
        }

        int layersBegun(int balls) {
            int layers = 0;
            while (layers < edge && starts[layers] < balls) {
                layers++;
            }
            return layers;
        }

        int layersFull(int balls) {
            int layers = 0;
            while (layers < edge && starts[layers + 1] <= balls) {
                layers++;
            }
            return layers;
        }

        // The balls before a ball fill just the layers below its own.
        int layerOf(int ball) {
            return layersFull(ball);
        }

        int rowOf(int ball) {
            int layer = layerOf(ball);
            int width = edge - layer;
            return width > 0 ? (ball - startOf(layer)) / width : 0;
        }

        int placeOf(int ball) {
            int layer = layerOf(ball);
            int width = edge - layer;
            return width > 0 ? (ball - startOf(layer)) % width : 0;
        }
    }

    /** Balls on one another, known by their rust alone. */
    private static final class Pile {
        int calibre;
        Pyramid pyramid;
        int balls;
        private final int[] rust;

        Pile(Pyramid pyramid) {
            this.pyramid = pyramid;
            rust = new int[MOST_BALLS_OF_A_PILE];
        }

        void begin(int itsCalibre, Pyramid itsPyramid) {
            calibre = itsCalibre;
            pyramid = itsPyramid;
            balls = 0;
        }

        void copyFrom(Pile other) {
            calibre = other.calibre;
            pyramid = other.pyramid;
            balls = other.balls;
            System.arraycopy(other.rust, 0, rust, 0, MOST_BALLS_OF_A_PILE);
        }

        int spare() {
            return pyramid.capacity - balls;
        }

        void put(int itsRust) {
            if (spare() > 0) {
                setRust(balls, itsRust);
                balls++;
            }
        }

        int takeTop() {
            if (balls < 1) {
                return 0;
            }
            balls--;
            return rustOf(balls);
        }

        int rustOf(int ball) {
            return ball >= 0 && ball < rust.length ? rust[ball] : 0;
        }

        private void setRust(int ball, int itsRust) {
            if (ball >= 0 && ball < rust.length) {
                rust[ball] = itsRust;
            }
        }

        boolean isCovered(int ball) {
            return pyramid.firstOn(ball) < balls;
        }

        int ballsOn(int ball) {
            int layer = pyramid.layerOf(ball) + 1;
            int row = pyramid.rowOf(ball);
            int place = pyramid.placeOf(ball);
            int last = pyramid.edge - layer - 1;
            int many = 0;
            for (int r = Math.max(row - 1, 0); r <= Math.min(row, last); r++) {
                for (int p = Math.max(place - 1, 0); p <= Math.min(place, last); p++) {
                    if (pyramid.numberOf(layer, r, p) < balls) {
                        many++;
                    }
                }
            }
            return many;
        }

        boolean hasBrokenLayer() {
            return pyramid.layersBegun(balls) != pyramid.layersFull(balls);
        }

        int bareBalls() {
            int bare = 0;
            for (int ball = 0; ball < balls; ball++) {
                if (!isCovered(ball)) {
                    bare++;
                }
            }
            return bare;
        }

        int rustyBalls(int limit) {
            int rusty = 0;
            for (int ball = 0; ball < balls; ball++) {
                if (rustOf(ball) >= limit) {
                    rusty++;
                }
            }
            return rusty;
        }

        int greatestRust() {
            int greatest = 0;
            for (int ball = 0; ball < balls; ball++) {
                greatest = Math.max(greatest, rustOf(ball));
            }
            return greatest;
        }

        int allRust() {
            int all = 0;
            for (int ball = 0; ball < balls; ball++) {
                all += rustOf(ball);
            }
            return all;
        }

        int scourBare() {
            int gone = 0;
            for (int ball = 0; ball < balls; ball++) {
                if (!isCovered(ball)) {
                    int before = rustOf(ball);
                    int less = Math.min(before, SCOURED_RUST);
                    setRust(ball, before - less);
                    gone += less;
                }
            }
            return gone;
        }

        int throwAway(int limit) {
            int kept = 0;
            for (int ball = 0; ball < balls; ball++) {
                int itsRust = rustOf(ball);
                if (itsRust < limit) {
                    setRust(kept, itsRust);
                    kept++;
                }
            }
            int thrown = balls - kept;
            balls = kept;
            return thrown;
        }

        void rustForADay(int rain) {
            for (int ball = 0; ball < balls; ball++) {
                int more = isCovered(ball) ? rain / 2 : 1 + rain;
                setRust(ball, Math.min(rustOf(ball) + more, MOST_RUST));
            }
        }
    }

    /** A cat on the ground or on a pile. */
    private static final class Cat {
        int leap;
        int on;
        int rolledOff;

        Cat() {
            on = ON_THE_GROUND;
        }

        void copyFrom(Cat other) {
            leap = other.leap;
            on = other.on;
            rolledOff = other.rolledOff;
        }

        void jump(int piles) {
            on = on == ON_THE_GROUND || piles < 1 ? 0 : Math.floorMod(on + leap, piles);
        }
    }

    /** All that days change, and what they depend on. */
    private static final class Yard {
        final Pile[] piles;
        final Cat[] cats;
        final Tally loose;
        int pileCount;
        int catCount;
        int day;
        int rain;
        int limit;

        Yard(Pyramid anyPyramid) {
            piles = new Pile[MOST_PILES];
            for (int i = 0; i < MOST_PILES; i++) {
                piles[i] = new Pile(anyPyramid);
            }
            cats = new Cat[MOST_CATS];
            for (int i = 0; i < MOST_CATS; i++) {
                cats[i] = new Cat();
            }
            loose = new Tally();
            limit = FIRST_LIMIT;
        }

        void copyFrom(Yard other) {
            pileCount = other.pileCount;
            for (int i = 0; i < pileCount; i++) {
                piles[i].copyFrom(other.piles[i]);
            }
            catCount = other.catCount;
            for (int i = 0; i < catCount; i++) {
                cats[i].copyFrom(other.cats[i]);
            }
            loose.copyFrom(other.loose);
            day = other.day;
            rain = other.rain;
            limit = other.limit;
        }

        int passDays(int days) {
            int rolledOff = 0;
            for (int i = 0; i < days; i++) {
                rolledOff += passOneDay();
            }
            return rolledOff;
        }

        private int passOneDay() {
            for (int i = 0; i < pileCount; i++) {
                piles[i].rustForADay(rain);
            }
            int rolledOff = 0;
            if (pileCount > 0) {
                for (int i = 0; i < catCount; i++) {
                    rolledOff += letJump(cats[i]);
                }
            }
            day++;
            return rolledOff;
        }

        private int letJump(Cat jumper) {
            jumper.jump(pileCount);
            Pile landed = piles[jumper.on];
            if (!landed.hasBrokenLayer()) {
                return 0;
            }
            landed.takeTop();
            loose.add(landed.calibre, 1);
            jumper.rolledOff++;
            return 1;
        }

        int ballsOfCalibre(int calibre) {
            int balls = 0;
            for (int i = 0; i < pileCount; i++) {
                if (piles[i].calibre == calibre) {
                    balls += piles[i].balls;
                }
            }
            return balls;
        }

        int ballCount(int what) {
            if (what == LOOSE) {
                return loose.all();
            }
            int balls = 0;
            for (int i = 0; i < pileCount; i++) {
                balls += what == RUSTY ? piles[i].rustyBalls(limit) : piles[i].balls;
            }
            return balls;
        }
    }
}
