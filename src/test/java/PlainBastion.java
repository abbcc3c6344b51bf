import java.util.ArrayList;
import java.util.List;

/**
 * The document once more, as word for word as can be and as slowly as it likes: balls that know
 * where they lie, and days to come that are tried out on a whole copy. ModelTest compares with it.
 */
final class PlainBastion {
    static final class Ball {
        int rust;
        int layer;
        int row;
        int place;
    }

    static final class Pile {
        int calibre;
        int side;
        List<Ball> balls = new ArrayList<>();

        int room() {
            int room = 0;
            for (int layer = 0; layer < side; layer++) {
                room += (side - layer) * (side - layer);
            }
            return room;
        }

        void lay() {
            int number = 0;
            for (int layer = 0; layer < side; layer++) {
                for (int row = 0; row < side - layer; row++) {
                    for (int place = 0; place < side - layer; place++) {
                        if (number < balls.size()) {
                            Ball ball = balls.get(number);
                            ball.layer = layer;
                            ball.row = row;
                            ball.place = place;
                            number++;
                        }
                    }
                }
            }
        }

        void add(int rust) {
            Ball ball = new Ball();
            ball.rust = rust;
            balls.add(ball);
            lay();
        }

        int removeTop() {
            return balls.remove(balls.size() - 1).rust;
        }

        int on(Ball below) {
            int many = 0;
            for (Ball ball : balls) {
                boolean liesOn = ball.layer == below.layer + 1
                    && (below.row == ball.row || below.row == ball.row + 1)
                    && (below.place == ball.place || below.place == ball.place + 1);
                many += liesOn ? 1 : 0;
            }
            return many;
        }

        int inLayer(int layer) {
            int many = 0;
            for (Ball ball : balls) {
                many += ball.layer == layer ? 1 : 0;
            }
            return many;
        }

        int layers(boolean full) {
            int many = 0;
            for (int layer = 0; layer < side; layer++) {
                int needed = full ? (side - layer) * (side - layer) : 1;
                many += inLayer(layer) >= needed ? 1 : 0;
            }
            return many;
        }

        int rusty(int limit) {
            int many = 0;
            for (Ball ball : balls) {
                many += ball.rust >= limit ? 1 : 0;
            }
            return many;
        }
    }

    static final class Cat {
        int leap;
        int pile = -1;
        int rolled;
    }

    private final List<Pile> piles = new ArrayList<>();
    private final List<Cat> cats = new ArrayList<>();
    private final int[][] told = new int[5][5];
    private int day;
    private int rain;
    private int limit = 6;

    private PlainBastion copy() {
        PlainBastion copy = new PlainBastion();
        for (Pile pile : piles) {
            Pile other = new Pile();
            other.calibre = pile.calibre;
            other.side = pile.side;
            for (Ball ball : pile.balls) {
                other.add(ball.rust);
            }
            copy.piles.add(other);
        }
        for (Cat cat : cats) {
            Cat other = new Cat();
            other.leap = cat.leap;
            other.pile = cat.pile;
            copy.cats.add(other);
        }
        for (int i = 0; i < 25; i++) {
            copy.told[i / 5][i % 5] = told[i / 5][i % 5];
        }
        copy.day = day;
        copy.rain = rain;
        copy.limit = limit;
        return copy;
    }

    private static void index(boolean holds) {
        if (!holds) {
            throw new IndexOutOfBoundsException();
        }
    }

    private static void argument(boolean holds) {
        if (!holds) {
            throw new IllegalArgumentException();
        }
    }

    private static void state(boolean holds) {
        if (!holds) {
            throw new IllegalStateException();
        }
    }

    private static boolean in(int number, int least, int most) {
        return least <= number && number <= most;
    }

    private Pile pileOf(int number) {
        index(in(number, 0, piles.size() - 1));
        return piles.get(number);
    }

    private Cat catOf(int number) {
        index(in(number, 0, cats.size() - 1));
        return cats.get(number);
    }

    int pile(int calibre, int side) {
        index(in(calibre, 0, 4));
        argument(in(side, 1, 6));
        state(piles.size() < 6);
        Pile pile = new Pile();
        pile.calibre = calibre;
        pile.side = side;
        piles.add(pile);
        return piles.size() - 1;
    }

    int cat(int leap) {
        argument(in(leap, 1, 5));
        state(cats.size() < 3);
        Cat cat = new Cat();
        cat.leap = leap;
        cats.add(cat);
        return cats.size() - 1;
    }

    int give(int calibre, int many) {
        index(in(calibre, 0, 4));
        argument(in(many, 1, 99));
        told[calibre][0] += many;
        return told[calibre][0];
    }

    int setRain(int next) {
        argument(in(next, 0, 3));
        int before = rain;
        rain = next;
        return before;
    }

    int setLimit(int next) {
        argument(in(next, 1, 9));
        int before = limit;
        limit = next;
        return before;
    }

    int stack(int number, int many) {
        Pile pile = pileOf(number);
        argument(in(many, 1, 91));
        state(told[pile.calibre][0] >= many && pile.balls.size() + many <= pile.room());
        for (int i = 0; i < many; i++) {
            pile.add(0);
        }
        told[pile.calibre][0] -= many;
        return pile.balls.size();
    }

    int fire(int number, int many) {
        Pile pile = pileOf(number);
        argument(in(many, 1, 91));
        state(pile.balls.size() >= many);
        int rust = 0;
        for (int i = 0; i < many; i++) {
            rust += pile.removeTop();
        }
        told[pile.calibre][3] += many;
        return rust;
    }

    int scour(int number) {
        Pile pile = pileOf(number);
        int gone = 0;
        for (Ball ball : pile.balls) {
            if (pile.on(ball) == 0) {
                int then = Math.max(0, ball.rust - 3);
                gone += ball.rust - then;
                ball.rust = then;
            }
        }
        return gone;
    }

    int inspect(int number) {
        Pile pile = pileOf(number);
        int before = pile.balls.size();
        pile.balls.removeIf(ball -> ball.rust >= limit);
        pile.lay();
        told[pile.calibre][4] += before - pile.balls.size();
        return before - pile.balls.size();
    }

    int shift(int from, int to) {
        Pile giver = pileOf(from);
        Pile taker = pileOf(to);
        argument(from != to && giver.calibre == taker.calibre);
        int many = 0;
        while (giver.balls.size() > 0 && taker.balls.size() < taker.room()) {
            taker.add(giver.removeTop());
            many++;
        }
        return many;
    }

    int gather() {
        int many = 0;
        for (int[] ofCalibre : told) {
            many += ofCalibre[1];
            ofCalibre[0] += ofCalibre[1];
            ofCalibre[1] = 0;
        }
        return many;
    }

    int chase(int number) {
        Cat cat = catOf(number);
        int before = cat.pile;
        cat.pile = -1;
        return before;
    }

    int about(int number, int what) {
        Pile pile = pileOf(number);
        index(in(what, 0, 9));
        int bare = 0;
        int greatest = 0;
        int all = 0;
        for (Ball ball : pile.balls) {
            bare += pile.on(ball) == 0 ? 1 : 0;
            greatest = Math.max(greatest, ball.rust);
            all += ball.rust;
        }
        return new int[] {pile.calibre, pile.side, pile.balls.size(), pile.room(), pile.layers(false),
            pile.layers(true), bare, pile.rusty(limit), greatest, all}[what];
    }

    int ball(int number, int which, int what) {
        Pile pile = pileOf(number);
        index(in(which, 0, pile.balls.size() - 1) && in(what, 0, 5));
        Ball ball = pile.balls.get(which);
        int on = pile.on(ball);
        return new int[] {ball.rust, ball.layer, ball.row, ball.place, on > 0 ? 1 : 0, on}[what];
    }

    int at(int number, int layer, int row, int place) {
        Pile pile = pileOf(number);
        index(in(layer, 0, pile.side - 1));
        index(in(row, 0, pile.side - layer - 1) && in(place, 0, pile.side - layer - 1));
        for (int i = 0; i < pile.balls.size(); i++) {
            Ball ball = pile.balls.get(i);
            if (ball.layer == layer && ball.row == row && ball.place == place) {
                return i;
            }
        }
        return -1;
    }

    int told(int calibre, int what) {
        index(in(calibre, 0, 4) && in(what, 0, 4));
        int inPiles = 0;
        for (Pile pile : piles) {
            inPiles += pile.calibre == calibre ? pile.balls.size() : 0;
        }
        return what == 2 ? inPiles : told[calibre][what];
    }

    int mouser(int number, int what) {
        Cat cat = catOf(number);
        index(in(what, 0, 2));
        return new int[] {cat.leap, cat.pile, cat.rolled}[what];
    }

    int count(int what) {
        index(in(what, 0, 10));
        int rusty = 0;
        for (Pile pile : piles) {
            rusty += pile.rusty(limit);
        }
        int[] sums = new int[5];
        for (int i = 0; i < 25; i++) {
            sums[i % 5] += told(i / 5, i % 5);
        }
        return new int[] {day, piles.size(), cats.size(), sums[0], sums[1], sums[2], rusty, sums[3], sums[4],
            rain, limit}[what];
    }

    int room(int side) {
        argument(in(side, 1, 20));
        Pile pile = new Pile();
        pile.side = side;
        return pile.room();
    }

    int side(int many) {
        argument(in(many, 1, 2870));
        int side = 1;
        while (room(side) < many) {
            side++;
        }
        return side;
    }

    int pass(int days) {
        argument(in(days, 1, 60));
        int rolled = 0;
        for (int i = 0; i < days; i++) {
            for (Pile pile : piles) {
                for (Ball ball : pile.balls) {
                    ball.rust = Math.min(9, ball.rust + (pile.on(ball) == 0 ? 1 + rain : rain / 2));
                }
            }
            for (Cat cat : cats) {
                rolled += piles.isEmpty() ? 0 : jump(cat);
            }
            day++;
        }
        return rolled;
    }

    private int jump(Cat cat) {
        cat.pile = cat.pile == -1 ? 0 : (cat.pile + cat.leap) % piles.size();
        Pile pile = piles.get(cat.pile);
        if (pile.balls.isEmpty()) {
            return 0;
        }
        int layer = pile.balls.get(pile.balls.size() - 1).layer;
        if (pile.inLayer(layer) == (pile.side - layer) * (pile.side - layer)) {
            return 0;
        }
        pile.removeTop();
        told[pile.calibre][1]++;
        cat.rolled++;
        return 1;
    }

    int until(int number) {
        pileOf(number);
        PlainBastion copy = copy();
        for (int days = 0; days <= 40; days++) {
            if (copy.piles.get(number).rusty(limit) > 0) {
                return days;
            }
            copy.pass(1);
        }
        return -1;
    }

    int foresee(int days, int what) {
        argument(in(days, 1, 30));
        index(in(what, 4, 6));
        PlainBastion copy = copy();
        copy.pass(days);
        return copy.count(what);
    }

    int would(int number) {
        pileOf(number);
        PlainBastion copy = copy();
        copy.inspect(number);
        return copy.about(number, 4);
    }

    int advise() {
        int best = -1;
        for (int i = 0; i < piles.size(); i++) {
            int more = best == -1 ? about(i, 7) : about(i, 7) - about(best, 7);
            if (more > 0 || best != -1 && more == 0 && about(i, 2) < about(best, 2)) {
                best = i;
            }
        }
        return best;
    }

    double mean() {
        double rust = 0;
        double many = 0;
        for (Pile pile : piles) {
            for (Ball ball : pile.balls) {
                rust += ball.rust;
                many++;
            }
        }
        return many == 0 ? 0 : rust / many;
    }

    long digest() {
        List<Integer> numbers = new ArrayList<>();
        for (int what = 0; what <= 10; what++) {
            numbers.add(count(what));
        }
        for (int i = 0; i < 25; i++) {
            numbers.add(told(i / 5, i % 5));
        }
        for (int pile = 0; pile < piles.size(); pile++) {
            for (int what = 0; what <= 9; what++) {
                numbers.add(about(pile, what));
            }
            for (Ball ball : piles.get(pile).balls) {
                numbers.add(ball.rust);
            }
        }
        for (int i = 0; i < 3 * cats.size(); i++) {
            numbers.add(mouser(i / 3, i % 3));
        }
        long d = 1811;
        for (int x : numbers) {
            d = d * 31 + x;
        }
        return d;
    }
}
