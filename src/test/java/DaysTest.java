/** Promises 22 to 28: pass, until, foresee, would, advise, mean, digest. */
public final class DaysTest {
    private static final int MIN = Integer.MIN_VALUE;
    private static final int MAX = Integer.MAX_VALUE;

    private DaysTest() {
    }

    public static void main(String[] args) {
        pass();
        rustByRain();
        catsOnPiles();
        catsOneBehindTheOther();
        until();
        untilWithCats();
        foresee();
        would();
        advise();
        mean();
        digest();
        greatestBastion();
        Check.end();
    }

    private static void pass() {
        CannonStacks x = new CannonStacks();
        for (int bad : new int[] {0, 61, -1, MIN, MAX}) {
            Check.refused(x, "22: pass(" + bad + ")", Check.ARGUMENT, () -> x.pass(bad));
        }
        x.cat(3);
        Check.due("22: pass(1)", x.pass(1), 0);
        Check.due("22: pass(60)", x.pass(60), 0);
        Check.due("22: the day", x.count(0), 61);
        Check.due("22: a cat without piles stays on the ground", x.mouser(0, 1), -1);
    }

    private static void rustByRain() {
        int[] coveredByRain = {0, 0, 1, 1};
        for (int rain = 0; rain <= 3; rain++) {
            CannonStacks x = Bastions.onePile(2, 5);
            x.setRain(rain);
            for (int days = 1; days <= 12; days++) {
                Check.due("22: pass(1)", x.pass(1), 0);
                Check.due("22: bare, rain " + rain, x.ball(0, 4, 0), Math.min(9, days * (1 + rain)));
                for (int ball = 0; ball < 4; ball++) {
                    Check.due("22: covered, rain " + rain, x.ball(0, ball, 0), Math.min(9, days * coveredByRain[rain]));
                }
            }
        }
    }

    private static void catsOnPiles() {
        CannonStacks x = Bastions.onePile(3, 9);
        x.cat(1);
        Check.due("22: none rolls off full layers", x.pass(10), 0);
        Check.due("22: the only pile", x.mouser(0, 1), 0);
        x.stack(0, 2);
        Check.due("22: they roll off till the layers are full", x.pass(10), 2);
        x.fire(0, 1);
        Check.due("22: then till there are none", x.pass(10), 8);
        Check.due("22: none is left", x.about(0, 2), 0);
        Check.due("22: loose ones", x.count(4), 10);
        Check.due("22: an empty pile loses none", x.pass(2), 0);

        CannonStacks y = Bastions.onePile(1, 1);
        for (int i = 0; i < 5; i++) {
            y.pile(1, 2);
        }
        y.cat(4);
        int[] stops = {0, 4, 2, 0, 4};
        for (int day = 0; day < 5; day++) {
            y.pass(1);
            Check.due("22: pile on day " + day, y.mouser(0, 1), stops[day]);
        }
        Check.due("22: the only ball of a pile for one stays", y.about(0, 2), 1);
    }

    private static void catsOneBehindTheOther() {
        CannonStacks x = Bastions.onePile(3, 8);
        x.pile(0, 2);
        x.stack(1, 1);
        x.cat(1);
        x.cat(2);
        x.cat(1);
        Check.due("22: three at once", x.pass(1), 3);
        Check.due("22: balls of 0", x.about(0, 2), 5);
        Check.due("22: only the first finds one on 1", x.pass(1), 2);
        Check.due("22: balls of 0", x.about(0, 2), 4);
        Check.due("22: balls of 1", x.about(1, 2), 0);
        Check.due("22: off by cat 0", x.mouser(0, 2), 2);
        Check.due("22: off by cat 1", x.mouser(1, 2), 2);
        Check.due("22: off by cat 2", x.mouser(2, 2), 1);
        Check.due("22: rust comes before the cats", x.about(0, 9), 8);
    }

    private static void until() {
        CannonStacks x = Bastions.onePile(2, 0);
        for (int bad : new int[] {-1, 1, MIN, MAX}) {
            Check.refused(x, "23: until(" + bad + ")", Check.INDEX, () -> x.until(bad));
        }
        Check.due("23: until of none", x.until(0), -1);
        x.stack(0, 5);
        long before = x.digest();
        Check.due("23: until", x.until(0), 6);
        Check.due("23: nothing is changed", x.digest(), before);
        x.setRain(1);
        Check.due("23: until, rain 1", x.until(0), 3);
        x.setRain(3);
        Check.due("23: until, rain 3", x.until(0), 2);
        x.setLimit(9);
        Check.due("23: until, limit 9", x.until(0), 3);
        x.pass(2);
        Check.due("23: until, 8 now", x.until(0), 1);
        x.pass(1);
        Check.due("23: rusty now", x.until(0), 0);
    }

    private static void untilWithCats() {
        CannonStacks x = Bastions.onePile(6, 30);
        x.cat(1);
        Check.due("23: 30 balls roll off, but get rusty before", x.until(0), 6);
        CannonStacks y = Bastions.onePile(6, 3);
        y.cat(1);
        Check.due("23: 3 balls roll off before", y.until(0), -1);
        y.setLimit(3);
        Check.due("23: as they get rusty, the last one rolls off", y.until(0), -1);
        y.setLimit(2);
        Check.due("23: one is left behind two days", y.until(0), 2);
        // By the scouring of a covered pile's top, the first rusty one may come late.
        CannonStacks z = Bastions.onePile(2, 4);
        z.pass(5);
        z.stack(0, 1);
        z.setLimit(9);
        Check.due("23: the top one is first", z.until(0), 9);
        z.scour(0);
        z.pass(2);
        Check.due("23: it goes on from now", z.until(0), 7);
    }

    private static void foresee() {
        CannonStacks x = Bastions.onePile(3, 11);
        x.pile(0, 3);
        x.stack(1, 8);
        x.cat(1);
        for (int bad : new int[] {0, 31, -1, MIN, MAX}) {
            Check.refused(x, "24: foresee(" + bad + ", 4)", Check.ARGUMENT, () -> x.foresee(bad, 4));
            Check.refused(x, "24: foresee(" + bad + ", 3)", Check.ARGUMENT, () -> x.foresee(bad, 3));
        }
        for (int bad : new int[] {3, 7, -1, MIN, MAX}) {
            Check.refused(x, "24: foresee(1, " + bad + ")", Check.INDEX, () -> x.foresee(1, bad));
        }
        long before = x.digest();
        for (int days : new int[] {1, 2, 3, 6, 30}) {
            CannonStacks y = Bastions.onePile(3, 11);
            y.pile(0, 3);
            y.stack(1, 8);
            y.cat(1);
            y.pass(days);
            for (int what = 4; what <= 6; what++) {
                Check.due("24: foresee(" + days + ", " + what + ")", x.foresee(days, what), y.count(what));
            }
        }
        Check.due("24: foresee(3, 4)", x.foresee(3, 4), 3);
        Check.due("24: foresee(3, 5)", x.foresee(3, 5), 16);
        Check.due("24: foresee(5, 6)", x.foresee(5, 6), 0);
        Check.due("24: nothing is changed", x.digest(), before);
        x.pass(1);
        Check.due("24: cats go on from where they are", x.foresee(1, 5), 17);
        x.fire(1, 7);
        Check.due("24: foresee(1, 4), the last one of pile 1 rolls off", x.foresee(1, 4), 2);
        x.fire(1, 1);
        Check.due("24: foresee(1, 4), none is left of pile 1", x.foresee(1, 4), 1);
        Check.due("24: foresee(1, 4) again, from where the cat is", x.foresee(1, 4), 1);
        Check.due("24: without piles", new CannonStacks().foresee(30, 5), 0);
    }

    private static void would() {
        CannonStacks x = Bastions.onePile(3, 0);
        for (int bad : new int[] {-1, 1, MIN, MAX}) {
            Check.refused(x, "25: would(" + bad + ")", Check.INDEX, () -> x.would(bad));
        }
        Check.due("25: would of none", x.would(0), 0);
        x.stack(0, 5);
        x.pass(2);
        x.stack(0, 9);
        long before = x.digest();
        Check.due("25: none rusty", x.would(0), 3);
        x.setLimit(2);
        Check.due("25: five rusty, nine left", x.would(0), 1);
        x.setLimit(6);
        Check.due("25: nothing is changed", x.digest(), before);
        x.pass(2);
        x.setLimit(2);
        Check.due("25: six rusty, eight left", x.would(0), 1);
        x.setLimit(1);
        x.setRain(3);
        x.pass(1);
        Check.due("25: all rusty", x.would(0), 0);
        CannonStacks y = Bastions.onePile(3, 14);
        y.pass(6);
        Check.due("25: the top one is rusty", y.would(0), 2);
        y.inspect(0);
        Check.due("25: as inspecting has it", y.about(0, 4), 2);
    }

    private static void advise() {
        CannonStacks x = new CannonStacks();
        Check.due("26: without piles", x.advise(), -1);
        x.give(0, 99);
        for (int i = 0; i < 4; i++) {
            x.pile(0, 3);
        }
        Check.due("26: without balls", x.advise(), -1);
        x.stack(0, 14);
        x.stack(1, 2);
        x.stack(2, 2);
        x.stack(3, 1);
        Check.due("26: without rusty ones", x.advise(), -1);
        x.pass(6);
        Check.due("26: the most rusty ones, then the smallest number", x.advise(), 1);
        x.stack(1, 1);
        Check.due("26: the fewest balls", x.advise(), 2);
        x.inspect(2);
        x.inspect(1);
        Check.due("26: one rusty in 14 and in 1", x.advise(), 3);
        x.inspect(3);
        Check.due("26: the last one", x.advise(), 0);
        x.inspect(0);
        Check.due("26: none again", x.advise(), -1);
    }

    private static void mean() {
        CannonStacks x = new CannonStacks();
        Check.dueMean("27: without any", x.mean(), 0.0);
        x.give(0, 99);
        x.pile(0, 2);
        x.pile(0, 1);
        Check.dueMean("27: without balls", x.mean(), 0.0);
        x.stack(0, 5);
        Check.dueMean("27: without rust", x.mean(), 0.0);
        x.stack(1, 1);
        x.pass(1);
        Check.dueMean("27: two of six", x.mean(), 2.0 / 6.0);
        x.pass(4);
        Check.dueMean("27: ten of six", x.mean(), 10.0 / 6.0);
    }

    private static void greatestBastion() {
        CannonStacks x = new CannonStacks();
        for (int i = 0; i < 6; i++) {
            x.pile(i % 5, 6);
            x.give(i % 5, 91);
            x.stack(i, 91);
        }
        for (int leap = 1; leap <= 3; leap++) {
            x.cat(leap);
        }
        x.setRain(2);
        x.setLimit(9);
        Check.due("22: full layers alone", x.pass(2), 0);
        Check.due("23: until", x.until(5), 1);
        Check.due("24: foresee(1, 6)", x.foresee(1, 6), 6);
        Check.due("26: none rusty", x.advise(), -1);
        Check.dueMean("27: mean", x.mean(), (6 * 6 + 540 * 2) / 546.0);
        Check.due("28: digest", x.digest(), digestByHand(x));
        x.pass(60);
        Check.dueMean("27: mean of all", x.mean(), 9.0);
        Check.due("26: all rusty", x.advise(), 0);
        Check.due("25: would", x.would(5), 0);
        Check.due("9: scour", x.scour(4), 3);
        Check.due("8: fire", x.fire(3, 91), 819);
        Check.due("11: shift", x.shift(0, 5), 0);
        Check.due("10: inspect", x.inspect(5), 91);
        Check.due("11: shift", x.shift(0, 5), 91);
        Check.due("10: inspect of the scoured one", x.inspect(4), 90);
        Check.due("10: the one that is left", x.ball(4, 0, 0), 6);
        Check.due("28: digest", x.digest(), digestByHand(x));
    }

    private static void digest() {
        CannonStacks x = new CannonStacks();
        Check.due("28: a new object", x.digest(), digestByHand(x));
        x.give(0, 99);
        x.give(4, 99);
        x.pile(0, 2);
        x.pile(4, 3);
        x.stack(0, 5);
        x.stack(1, 11);
        x.cat(5);
        x.cat(2);
        x.setRain(3);
        x.pass(3);
        x.inspect(1);
        Check.due("28: digest", x.digest(), digestByHand(x));
    }

    private static long digestByHand(CannonStacks x) {
        long d = 1811;
        for (int what = 0; what <= 10; what++) {
            d = d * 31 + x.count(what);
        }
        for (int i = 0; i < 25; i++) {
            d = d * 31 + x.told(i / 5, i % 5);
        }
        for (int pile = 0; pile < x.count(1); pile++) {
            for (int what = 0; what <= 9; what++) {
                d = d * 31 + x.about(pile, what);
            }
            for (int ball = 0; ball < x.about(pile, 2); ball++) {
                d = d * 31 + x.ball(pile, ball, 0);
            }
        }
        for (int i = 0; i < 3 * x.count(2); i++) {
            d = d * 31 + x.mouser(i / 3, i % 3);
        }
        return d;
    }
}
