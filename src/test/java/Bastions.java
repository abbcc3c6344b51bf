import java.util.ArrayList;
import java.util.List;

/** Bastions that the tests begin with, and all that one tells. */
final class Bastions {
    private Bastions() {
    }

    /** One pile of the calibre 0 with so many balls without rust, and a store that is well filled. */
    static CannonStacks onePile(int side, int balls) {
        CannonStacks x = new CannonStacks();
        x.give(0, 99);
        x.give(0, 99);
        x.pile(0, side);
        if (balls > 0) {
            x.stack(0, balls);
        }
        return x;
    }

    /**
     * One pile whose balls have just this rust, by their numbers: never more than the one before
     * has, and no more balls than its lowest layer has room for, so that none is covered.
     */
    static CannonStacks withRust(int side, int... rust) {
        CannonStacks x = onePile(side, 0);
        for (int i = 0; i < rust.length; i++) {
            x.stack(0, 1);
            int next = i + 1 < rust.length ? rust[i + 1] : 0;
            if (rust[i] > next) {
                x.pass(rust[i] - next);
            }
        }
        return x;
    }

    /** Three piles, two cats on piles, and some of everything that can be counted. */
    static CannonStacks some() {
        CannonStacks x = new CannonStacks();
        x.pile(1, 3);
        x.pile(1, 3);
        x.pile(4, 2);
        x.cat(1);
        x.cat(2);
        x.give(1, 40);
        x.give(4, 20);
        x.stack(0, 11);
        x.stack(1, 8);
        x.stack(2, 4);
        x.setRain(2);
        x.pass(2);
        x.inspect(2);
        x.stack(2, 3);
        x.fire(1, 1);
        x.setLimit(4);
        x.pass(1);
        return x;
    }

    /** Six piles and three cats, of which one is on the ground. */
    static CannonStacks most() {
        CannonStacks x = new CannonStacks();
        for (int i = 0; i < 6; i++) {
            int calibre = Math.min(i, 4);
            x.pile(calibre, 1 + i % 3);
            x.give(calibre, 20);
            x.stack(i, 1 + i % 3);
        }
        x.cat(5);
        x.cat(3);
        x.cat(1);
        x.setRain(1);
        x.setLimit(9);
        x.pass(3);
        x.chase(1);
        return x;
    }

    /** All that can be asked, balls and days to come too; some hundred and fifty calls. */
    static List<Object> telling(CannonStacks x) {
        List<Object> all = new ArrayList<>();
        for (int what = 0; what <= 10; what++) {
            all.add(x.count(what));
        }
        for (int i = 0; i < 25; i++) {
            all.add(x.told(i / 5, i % 5));
        }
        int piles = x.count(1);
        for (int pile = 0; pile < piles; pile++) {
            for (int what = 0; what <= 9; what++) {
                all.add(x.about(pile, what));
            }
            int balls = x.about(pile, 2);
            for (int ball = 0; ball < balls; ball++) {
                all.add(x.ball(pile, ball, 0));
            }
            all.add(x.until(pile));
            all.add(x.would(pile));
        }
        int cats = x.count(2);
        for (int i = 0; i < 3 * cats; i++) {
            all.add(x.mouser(i / 3, i % 3));
        }
        for (int what = 4; what <= 6; what++) {
            all.add(x.foresee(30, what));
        }
        all.add(x.advise());
        all.add(x.mean());
        all.add(x.digest());
        return all;
    }
}
