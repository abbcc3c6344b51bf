import java.math.BigInteger;
import java.util.function.Consumer;
import java.util.function.Supplier;

/** The promises: each sentence that names an edge has a case of its own (their "Throws": RefusalsTest). */
public final class EdgesTest {
    private EdgesTest() {
    }

    public static void main(String[] args) {
        bastion();
        stack();
        fire();
        scour();
        shift();
        gather();
        chase();
        about();
        ball();
        at();
        told();
        mouser();
        count();
        pyramids();
        pass();
        until();
        foresee();
        would();
        advise();
        mean();
        digest();
        Check.end();
    }

    private static void bastion() {
        Check.test("1: without piles and cats, on the day 0", () -> {
            CannonStacks x = new CannonStacks();
            Check.due("count(0)", x.count(0), 0);
            Check.due("count(1)", x.count(1), 0);
            Check.due("count(2)", x.count(2), 0);
            Check.due("count(9)", x.count(9), 0);
            Check.due("count(10)", x.count(10), 6);
        });
        Check.test("1: without balls anywhere", () -> {
            CannonStacks x = new CannonStacks();
            for (int what = 3; what <= 8; what++) {
                Check.due("count(" + what + ")", x.count(what), 0);
            }
        });
        Check.test("2: a new pile has no balls", () -> {
            CannonStacks x = Bastions.some();
            Check.due("pile(1, 6)", x.pile(1, 6), 3);
            Check.due("about(3, 2)", x.about(3, 2), 0);
            Check.due("about(3, 9)", x.about(3, 9), 0);
        });
        Check.test("2: several piles of one calibre and side", () -> {
            CannonStacks x = new CannonStacks();
            Check.due("pile(2, 3)", x.pile(2, 3), 0);
            Check.due("pile(2, 3)", x.pile(2, 3), 1);
            x.give(2, 5);
            x.stack(1, 5);
            Check.due("about(0, 2)", x.about(0, 2), 0);
            Check.due("about(1, 2)", x.about(1, 2), 5);
        });
        Check.test("4: one ball, and 99", () -> {
            CannonStacks x = new CannonStacks();
            Check.due("give(0, 1)", x.give(0, 1), 1);
            Check.due("give(0, 99)", x.give(0, 99), 100);
            Check.due("give(4, 99)", x.give(4, 99), 99);
        });
        Check.test("4: as often as an object is used", () -> {
            CannonStacks x = new CannonStacks();
            for (int i = 1; i <= 500; i++) {
                Check.due("give(3, 99)", x.give(3, 99), 99 * i);
            }
            Check.due("count(3)", x.count(3), 49500);
        });
        Check.test("5: the rain of 0 and 3, and the same again", () -> {
            CannonStacks x = new CannonStacks();
            Check.due("setRain(0)", x.setRain(0), 0);
            Check.due("setRain(3)", x.setRain(3), 0);
            Check.due("setRain(3)", x.setRain(3), 3);
            Check.due("setRain(0)", x.setRain(0), 3);
        });
        Check.test("5: the rain is from now on", () -> {
            CannonStacks x = Bastions.onePile(2, 1);
            x.pass(1);
            x.setRain(3);
            Check.dueRust(x, 0, 1);
            x.pass(1);
            Check.dueRust(x, 0, 5);
            x.setRain(0);
            x.pass(1);
            Check.dueRust(x, 0, 6);
        });
        Check.test("6: the limit of 1 and 9, and the same again", () -> {
            CannonStacks x = new CannonStacks();
            Check.due("setLimit(1)", x.setLimit(1), 6);
            Check.due("setLimit(9)", x.setLimit(9), 1);
            Check.due("setLimit(9)", x.setLimit(9), 9);
            Check.due("setLimit(1)", x.setLimit(1), 9);
        });
        Check.test("6: the limit is from now on", () -> {
            CannonStacks x = Bastions.withRust(2, 7, 5, 3);
            Check.due("count(6)", x.count(6), 1);
            x.setLimit(5);
            Check.due("count(6)", x.count(6), 2);
            x.setLimit(8);
            Check.due("count(6)", x.count(6), 0);
        });
    }

    private static void stack() {
        Check.test("7: one ball", () -> {
            CannonStacks x = Bastions.onePile(6, 0);
            Check.due("stack(0, 1)", x.stack(0, 1), 1);
            Check.due("told(0, 0)", x.told(0, 0), 197);
        });
        Check.test("7: 91 balls at once", () -> {
            CannonStacks x = Bastions.onePile(6, 0);
            Check.due("stack(0, 91)", x.stack(0, 91), 91);
            Check.due("told(0, 0)", x.told(0, 0), 107);
        });
        Check.test("7: all that the store has", () -> {
            CannonStacks x = new CannonStacks();
            x.give(1, 6);
            x.give(2, 8);
            x.pile(1, 3);
            Check.due("stack(0, 6)", x.stack(0, 6), 6);
            Check.due("told(1, 0)", x.told(1, 0), 0);
            Check.due("told(2, 0)", x.told(2, 0), 8);
        });
        Check.test("7: till it is just full, for each side", () -> {
            int[] room = {0, 1, 5, 14, 30, 55, 91};
            for (int side = 1; side <= 6; side++) {
                CannonStacks x = Bastions.onePile(side, 0);
                Check.due("stack", x.stack(0, room[side]), room[side]);
                Check.refused(x, "stack(0, 1)", Check.STATE, () -> x.stack(0, 1));
            }
        });
        Check.test("7: behind those that lie there, without rust", () -> {
            CannonStacks x = Bastions.withRust(2, 4, 2);
            Check.due("stack(0, 2)", x.stack(0, 2), 4);
            Check.dueRust(x, 0, 4, 2, 0, 0);
        });
        Check.test("7: where rusty ones lay before", () -> {
            CannonStacks x = Bastions.withRust(2, 9, 9, 9);
            x.fire(0, 2);
            x.stack(0, 2);
            Check.dueRust(x, 0, 9, 0, 0);
        });
    }

    private static void fire() {
        Check.test("8: one ball without rust", () -> {
            CannonStacks x = Bastions.onePile(2, 5);
            Check.due("fire(0, 1)", x.fire(0, 1), 0);
            Check.due("told(0, 3)", x.told(0, 3), 1);
        });
        Check.test("8: all that it has", () -> {
            CannonStacks x = Bastions.withRust(3, 8, 5, 1);
            Check.due("fire(0, 3)", x.fire(0, 3), 14);
            Check.due("about(0, 2)", x.about(0, 2), 0);
        });
        Check.test("8: 91 at once, of 9 each", () -> {
            CannonStacks x = Bastions.onePile(6, 91);
            x.setRain(2);
            x.pass(60);
            Check.due("fire(0, 91)", x.fire(0, 91), 819);
            Check.due("told(0, 3)", x.told(0, 3), 91);
            Check.due("told(0, 0)", x.told(0, 0), 107);
        });
        Check.test("8: from the top on, the others stay", () -> {
            CannonStacks x = Bastions.withRust(3, 8, 5, 1);
            Check.due("fire(0, 2)", x.fire(0, 2), 6);
            Check.dueRust(x, 0, 8);
        });
        Check.test("8: fired ones are neither loose nor thrown away", () -> {
            CannonStacks x = Bastions.withRust(3, 8, 5, 1);
            x.fire(0, 2);
            Check.due("told(0, 1)", x.told(0, 1), 0);
            Check.due("told(0, 4)", x.told(0, 4), 0);
        });
    }

    private static void scour() {
        Check.test("9: without balls", () -> Check.due("scour(0)", Bastions.onePile(3, 0).scour(0), 0));
        Check.test("9: without rust", () -> Check.due("scour(0)", Bastions.onePile(3, 9).scour(0), 0));
        Check.test("9: less than 3, just 3, and more", () -> {
            CannonStacks x = Bastions.withRust(3, 9, 4, 3, 2, 1, 0);
            Check.due("scour(0)", x.scour(0), 3 + 3 + 3 + 2 + 1);
            Check.dueRust(x, 0, 6, 1, 0, 0, 0, 0);
        });
        Check.test("9: covered ones are left", () -> {
            CannonStacks x = Bastions.withRust(3, 9, 8, 7, 6, 5, 4, 3, 2, 1);
            x.stack(0, 1);
            Check.due("scour(0)", x.scour(0), 3 + 3 + 3 + 2 + 1);
            Check.dueRust(x, 0, 9, 8, 4, 6, 5, 1, 0, 0, 0, 0);
        });
        Check.test("9: a full pile, its top one alone", () -> {
            CannonStacks x = Bastions.onePile(3, 14);
            x.setRain(2);
            x.pass(3);
            Check.due("scour(0)", x.scour(0), 3);
            Check.dueRust(x, 0, 3, 3, 3, 3, 3, 3, 3, 3, 3, 3, 3, 3, 3, 6);
        });
        Check.test("9: those that were fired or thrown away count no more", () -> {
            CannonStacks x = Bastions.withRust(3, 5, 4, 3);
            x.fire(0, 1);
            Check.due("scour(0)", x.scour(0), 6);
            CannonStacks y = Bastions.withRust(3, 9, 8, 5);
            y.inspect(0);
            Check.due("scour(0)", y.scour(0), 3);
        });
        Check.test("9: the only ball", () -> {
            CannonStacks x = Bastions.withRust(1, 2);
            Check.due("scour(0)", x.scour(0), 2);
            Check.dueRust(x, 0, 0);
        });
        Check.test("9: other piles are left", () -> {
            CannonStacks x = Bastions.withRust(2, 5);
            x.pile(0, 2);
            x.stack(1, 1);
            x.pass(2);
            Check.due("scour(1)", x.scour(1), 2);
            Check.dueRust(x, 0, 7);
            Check.dueRust(x, 1, 0);
        });
    }

    /** Balls of this rust on the pile 0, with a side of 3, and so many without rust on the pile 1. */
    private static CannonStacks toShift(int side, int balls, int... rust) {
        CannonStacks x = Bastions.withRust(3, rust);
        x.pile(0, side);
        if (balls > 0) {
            x.stack(1, balls);
        }
        return x;
    }

    private static void shift() {
        Check.test("11: from one without balls", () -> {
            CannonStacks x = toShift(2, 2);
            Check.due("shift(0, 1)", x.shift(0, 1), 0);
            Check.due("about(1, 2)", x.about(1, 2), 2);
        });
        Check.test("11: both without balls", () -> Check.due("shift(0, 1)", toShift(2, 0).shift(0, 1), 0));
        Check.test("11: to a full one", () -> {
            CannonStacks x = toShift(2, 5, 3, 2);
            Check.due("shift(0, 1)", x.shift(0, 1), 0);
            Check.dueRust(x, 0, 3, 2);
        });
        Check.test("11: both full", () -> {
            CannonStacks x = Bastions.onePile(1, 1);
            x.pile(0, 1);
            x.stack(1, 1);
            Check.due("shift(0, 1)", x.shift(0, 1), 0);
        });
        Check.test("11: room for one", () -> {
            CannonStacks x = toShift(2, 4, 3, 2);
            Check.due("shift(0, 1)", x.shift(0, 1), 1);
            Check.dueRust(x, 0, 3);
            Check.dueRust(x, 1, 0, 0, 0, 0, 2);
        });
        Check.test("11: room for one, a side of 1", () -> {
            CannonStacks x = toShift(1, 0, 3, 2);
            Check.due("shift(0, 1)", x.shift(0, 1), 1);
            Check.dueRust(x, 1, 2);
        });
        Check.test("11: room for just so many", () -> {
            CannonStacks x = toShift(2, 2, 7, 6, 5);
            Check.due("shift(0, 1)", x.shift(0, 1), 3);
            Check.dueRust(x, 0);
            Check.dueRust(x, 1, 0, 0, 5, 6, 7);
        });
        Check.test("11: room for one fewer", () -> {
            CannonStacks x = toShift(2, 3, 7, 6, 5);
            Check.due("shift(0, 1)", x.shift(0, 1), 2);
            Check.dueRust(x, 0, 7);
            Check.dueRust(x, 1, 0, 0, 0, 5, 6);
        });
        Check.test("11: in the turned order, and back again", () -> {
            CannonStacks x = toShift(3, 0, 9, 4, 2, 1);
            Check.due("shift(0, 1)", x.shift(0, 1), 4);
            Check.dueRust(x, 1, 1, 2, 4, 9);
            Check.due("shift(1, 0)", x.shift(1, 0), 4);
            Check.dueRust(x, 0, 9, 4, 2, 1);
        });
        Check.test("11: 91 balls at once", () -> {
            CannonStacks x = Bastions.onePile(6, 91);
            x.pass(2);
            x.pile(0, 6);
            Check.due("shift(0, 1)", x.shift(0, 1), 91);
            Check.due("about(0, 2)", x.about(0, 2), 0);
            Check.due("ball(1, 0, 0)", x.ball(1, 0, 0), 2);
            Check.due("about(1, 9)", x.about(1, 9), 2);
        });
        Check.test("11: neither the store nor what was fired changes", () -> {
            CannonStacks x = toShift(2, 2, 7, 6, 5);
            int before = x.told(0, 0);
            x.shift(0, 1);
            Check.due("told(0, 0)", x.told(0, 0), before);
            Check.due("told(0, 2)", x.told(0, 2), 5);
            Check.due("told(0, 3)", x.told(0, 3), 0);
        });
    }

    private static void gather() {
        Check.test("12: no loose balls", () -> {
            CannonStacks x = Bastions.onePile(3, 5);
            long before = x.digest();
            Check.due("gather()", x.gather(), 0);
            Check.due("digest()", x.digest(), before);
        });
        Check.test("12: a new object", () -> Check.due("gather()", new CannonStacks().gather(), 0));
        Check.test("12: of all calibres, each to its own", () -> {
            CannonStacks x = new CannonStacks();
            x.cat(1);
            for (int calibre = 0; calibre <= 4; calibre++) {
                x.give(calibre, 5);
                x.pile(calibre, 3);
                x.stack(calibre, 5);
            }
            x.pass(8);
            Check.due("gather()", x.gather(), 8);
            int[] store = {2, 2, 2, 1, 1};
            for (int calibre = 0; calibre <= 4; calibre++) {
                Check.due("told(" + calibre + ", 0)", x.told(calibre, 0), store[calibre]);
                Check.due("told(" + calibre + ", 1)", x.told(calibre, 1), 0);
            }
        });
        Check.test("12: none is left for a second time", () -> {
            CannonStacks x = Bastions.onePile(3, 5);
            x.cat(1);
            x.pass(2);
            Check.due("gather()", x.gather(), 2);
            Check.due("gather()", x.gather(), 0);
            Check.due("told(0, 0)", x.told(0, 0), 195);
        });
    }

    private static void chase() {
        Check.test("13: -1 on the ground", () -> {
            CannonStacks x = Bastions.onePile(1, 1);
            x.cat(1);
            Check.due("chase(0)", x.chase(0), -1);
        });
        Check.test("13: 0 on the pile 0", () -> {
            CannonStacks x = Bastions.onePile(1, 1);
            x.cat(1);
            x.pass(1);
            Check.due("chase(0)", x.chase(0), 0);
            Check.due("mouser(0, 1)", x.mouser(0, 1), -1);
        });
        Check.test("13: the pile 5", () -> {
            CannonStacks x = new CannonStacks();
            for (int i = 0; i < 6; i++) {
                x.pile(0, 1);
            }
            x.cat(5);
            x.pass(2);
            Check.due("chase(0)", x.chase(0), 5);
        });
        Check.test("13: -1 for a second time", () -> {
            CannonStacks x = Bastions.onePile(1, 1);
            x.cat(1);
            x.pass(1);
            x.chase(0);
            Check.due("chase(0)", x.chase(0), -1);
        });
        Check.test("13: one cat alone is chased", () -> {
            CannonStacks x = Bastions.onePile(1, 1);
            x.cat(1);
            x.cat(2);
            x.cat(3);
            x.pass(1);
            Check.due("chase(1)", x.chase(1), 0);
            Check.due("mouser(0, 1)", x.mouser(0, 1), 0);
            Check.due("mouser(1, 1)", x.mouser(1, 1), -1);
            Check.due("mouser(2, 1)", x.mouser(2, 1), 0);
        });
    }

    private static void dueAbout(CannonStacks x, int pile, int... want) {
        for (int what = 0; what <= 9; what++) {
            Check.due("about(" + pile + ", " + what + ")", x.about(pile, what), want[what]);
        }
    }

    private static void about() {
        Check.test("14: without balls", () -> dueAbout(Bastions.onePile(4, 0), 0, 0, 4, 0, 30, 0, 0, 0, 0, 0, 0));
        Check.test("14: the only ball of a side of 1", () -> dueAbout(Bastions.withRust(1, 9), 0, 0, 1, 1, 1, 1, 1, 1, 1, 9, 9));
        Check.test("14: one ball of a side of 6", () -> dueAbout(Bastions.withRust(6, 3), 0, 0, 6, 1, 91, 1, 0, 1, 0, 3, 3));
        Check.test("14: full", () -> {
            CannonStacks x = Bastions.onePile(6, 91);
            x.pass(9);
            dueAbout(x, 0, 0, 6, 91, 91, 6, 6, 1, 1, 9, 9);
        });
        Check.test("14: a layer that is just full", () -> dueAbout(Bastions.onePile(3, 9), 0, 0, 3, 9, 14, 1, 1, 9, 0, 0, 0));
        Check.test("14: one more than a full layer", () -> dueAbout(Bastions.onePile(3, 10), 0, 0, 3, 10, 14, 2, 1, 6, 0, 0, 0));
        Check.test("14: one fewer than a full layer", () -> dueAbout(Bastions.onePile(3, 8), 0, 0, 3, 8, 14, 1, 0, 8, 0, 0, 0));
        Check.test("14: the greatest rust is the first ball's", () -> Check.due("about(0, 8)", Bastions.withRust(3, 7, 2, 1).about(0, 8), 7));
        Check.test("14: the greatest rust is the last ball's", () -> {
            CannonStacks x = Bastions.withRust(3, 7, 2, 1);
            x.pile(0, 3);
            x.shift(0, 1);
            Check.due("about(1, 8)", x.about(1, 8), 7);
            Check.due("about(1, 9)", x.about(1, 9), 10);
            Check.due("about(0, 8)", x.about(0, 8), 0);
        });
        Check.test("14: rust of 0 and 9, all added", () -> {
            CannonStacks x = Bastions.withRust(2, 9, 9, 0, 0);
            Check.due("about(0, 9)", x.about(0, 9), 18);
            Check.due("about(0, 8)", x.about(0, 8), 9);
        });
        Check.test("14: those that were fired or thrown away count no more", () -> {
            CannonStacks x = Bastions.withRust(3, 9, 8, 5, 4);
            x.inspect(0);
            dueAbout(x, 0, 0, 3, 2, 14, 1, 0, 2, 0, 5, 9);
            x.fire(0, 1);
            dueAbout(x, 0, 0, 3, 1, 14, 1, 0, 1, 0, 5, 5);
            x.fire(0, 1);
            dueAbout(x, 0, 0, 3, 0, 14, 0, 0, 0, 0, 0, 0);
        });
        Check.test("14: calibre 4 of the pile 5", () -> {
            CannonStacks x = new CannonStacks();
            for (int i = 0; i < 6; i++) {
                x.pile(Math.max(0, i - 1), 6 - i);
            }
            dueAbout(x, 0, 0, 6, 0, 91, 0, 0, 0, 0, 0, 0);
            dueAbout(x, 5, 4, 1, 0, 1, 0, 0, 0, 0, 0, 0);
        });
    }

    private static void dueBall(CannonStacks x, int ball, int... want) {
        for (int what = 0; what <= 5; what++) {
            Check.due("ball(0, " + ball + ", " + what + ")", x.ball(0, ball, what), want[what]);
        }
    }

    private static void ball() {
        Check.test("15: the only ball", () -> dueBall(Bastions.withRust(1, 9), 0, 9, 0, 0, 0, 0, 0));
        Check.test("15: the first ball of a full pile", () -> dueBall(Bastions.onePile(6, 91), 0, 0, 0, 0, 0, 1, 1));
        Check.test("15: the last ball of the lowest layer", () -> dueBall(Bastions.onePile(6, 91), 35, 0, 0, 5, 5, 1, 1));
        Check.test("15: the first ball of the second layer", () -> dueBall(Bastions.onePile(6, 91), 36, 0, 1, 0, 0, 1, 1));
        Check.test("15: the last ball of the last layer but one", () -> dueBall(Bastions.onePile(6, 91), 89, 0, 4, 1, 1, 1, 1));
        Check.test("15: the last ball of a full pile", () -> dueBall(Bastions.onePile(6, 91), 90, 0, 5, 0, 0, 0, 0));
        Check.test("15: the last ball of a row, and the first one of the next", () -> {
            CannonStacks x = Bastions.onePile(6, 12);
            dueBall(x, 5, 0, 0, 0, 5, 0, 0);
            dueBall(x, 6, 0, 0, 1, 0, 0, 0);
        });
    }

    private static void at() {
        Check.test("16: -1 without balls", () -> {
            CannonStacks x = Bastions.onePile(3, 0);
            Check.due("at(0, 0, 0, 0)", x.at(0, 0, 0, 0), -1);
            Check.due("at(0, 2, 0, 0)", x.at(0, 2, 0, 0), -1);
        });
        Check.test("16: 0 is the first ball", () -> Check.due("at(0, 0, 0, 0)", Bastions.onePile(3, 1).at(0, 0, 0, 0), 0));
        Check.test("16: the top ball, and -1 behind it", () -> {
            CannonStacks x = Bastions.onePile(3, 11);
            Check.due("at(0, 1, 0, 1)", x.at(0, 1, 0, 1), 10);
            Check.due("at(0, 1, 1, 0)", x.at(0, 1, 1, 0), -1);
        });
        Check.test("16: a layer that is just full, and -1 on the next one", () -> {
            CannonStacks x = Bastions.onePile(3, 9);
            Check.due("at(0, 0, 2, 2)", x.at(0, 0, 2, 2), 8);
            Check.due("at(0, 1, 0, 0)", x.at(0, 1, 0, 0), -1);
        });
        Check.test("16: the last place of a full pile, and -1 as it is one fewer", () -> {
            CannonStacks x = Bastions.onePile(6, 91);
            Check.due("at(0, 5, 0, 0)", x.at(0, 5, 0, 0), 90);
            x.fire(0, 1);
            Check.due("at(0, 5, 0, 0)", x.at(0, 5, 0, 0), -1);
        });
    }

    private static void told() {
        Check.test("17: a calibre without any", () -> {
            CannonStacks x = Bastions.some();
            for (int what = 0; what <= 4; what++) {
                Check.due("told(0, " + what + ")", x.told(0, what), 0);
            }
        });
        Check.test("17: in several piles of the calibre", () -> {
            CannonStacks x = new CannonStacks();
            x.give(4, 60);
            x.give(3, 60);
            for (int i = 0; i < 6; i++) {
                x.pile(i == 2 ? 3 : 4, 3);
                x.stack(i, 2 + i);
            }
            Check.due("told(4, 2)", x.told(4, 2), 2 + 3 + 5 + 6 + 7);
            Check.due("told(3, 2)", x.told(3, 2), 4);
        });
        Check.test("17: fired and thrown away in all, by several calls", () -> {
            CannonStacks x = Bastions.withRust(3, 9, 9, 9, 6, 5);
            x.fire(0, 1);
            x.fire(0, 1);
            x.inspect(0);
            x.stack(0, 2);
            x.pass(6);
            x.inspect(0);
            Check.due("told(0, 3)", x.told(0, 3), 2);
            Check.due("told(0, 4)", x.told(0, 4), 5);
        });
    }

    private static void mouser() {
        Check.test("18: -1 on the ground, 0 on the pile 0", () -> {
            CannonStacks x = Bastions.onePile(3, 5);
            x.cat(4);
            Check.due("mouser(0, 1)", x.mouser(0, 1), -1);
            Check.due("mouser(0, 2)", x.mouser(0, 2), 0);
            x.pass(1);
            Check.due("mouser(0, 1)", x.mouser(0, 1), 0);
            Check.due("mouser(0, 2)", x.mouser(0, 2), 1);
        });
        Check.test("18: in all, chased and gathered between", () -> {
            CannonStacks x = Bastions.onePile(3, 5);
            x.cat(4);
            x.pass(2);
            x.chase(0);
            x.gather();
            x.pass(2);
            Check.due("mouser(0, 2)", x.mouser(0, 2), 4);
        });
    }

    private static void count() {
        Check.test("19: of all calibres and piles", () -> {
            CannonStacks x = new CannonStacks();
            for (int i = 0; i < 6; i++) {
                int calibre = Math.min(i, 4);
                x.give(calibre, 20);
                x.pile(calibre, 3);
                x.stack(i, 8);
            }
            x.cat(1);
            x.pass(6);
            for (int pile = 0; pile < 6; pile++) {
                x.fire(pile, 1);
            }
            int[] want = {6, 6, 1, 72, 6, 36, 36, 6, 0, 0, 6};
            for (int what = 0; what <= 10; what++) {
                Check.due("count(" + what + ")", x.count(what), want[what]);
            }
            for (int pile = 0; pile < 6; pile++) {
                x.inspect(pile);
            }
            Check.due("count(5)", x.count(5), 0);
            Check.due("count(6)", x.count(6), 0);
            Check.due("count(8)", x.count(8), 36);
        });
    }

    private static void pyramids() {
        Check.test("20: a side of 1, and of 20", () -> {
            Check.due("room(1)", new CannonStacks().room(1), 1);
            Check.due("room(20)", new CannonStacks().room(20), 2870);
        });
        Check.test("20: a side of 6, and of 7, that no pile has", () -> {
            Check.due("room(6)", new CannonStacks().room(6), 91);
            Check.due("room(7)", new CannonStacks().room(7), 140);
        });
        Check.test("21: one ball", () -> Check.due("side(1)", new CannonStacks().side(1), 1));
        Check.test("21: one more than a side of 1 has room for", () -> Check.due("side(2)", new CannonStacks().side(2), 2));
        Check.test("21: just so many as a side has room for, and one more", () -> {
            CannonStacks x = new CannonStacks();
            Check.due("side(5)", x.side(5), 2);
            Check.due("side(6)", x.side(6), 3);
            Check.due("side(91)", x.side(91), 6);
            Check.due("side(92)", x.side(92), 7);
            Check.due("side(2470)", x.side(2470), 19);
            Check.due("side(2471)", x.side(2471), 20);
        });
        Check.test("21: 2870 balls", () -> Check.due("side(2870)", new CannonStacks().side(2870), 20));
    }

    private static void pass() {
        Check.test("22: one day", () -> {
            CannonStacks x = Bastions.onePile(3, 5);
            x.cat(1);
            Check.due("pass(1)", x.pass(1), 1);
            Check.due("count(0)", x.count(0), 1);
        });
        Check.test("22: 60 days", () -> {
            CannonStacks x = Bastions.onePile(6, 35);
            x.cat(1);
            Check.due("pass(60)", x.pass(60), 35);
            Check.due("count(0)", x.count(0), 60);
        });
        Check.test("22: 60 days, just one ball each", () -> {
            CannonStacks x = Bastions.onePile(6, 30);
            x.pile(0, 6);
            x.stack(1, 30);
            x.cat(1);
            Check.due("pass(59)", x.pass(59), 59);
            Check.due("pass(60)", x.pass(60), 1);
        });
        Check.test("22: without piles, cats and balls", () -> Check.due("pass(60)", new CannonStacks().pass(60), 0));
        Check.test("22: cats without piles", () -> {
            CannonStacks x = new CannonStacks();
            x.cat(1);
            x.cat(2);
            x.cat(3);
            Check.due("pass(60)", x.pass(60), 0);
            Check.due("mouser(2, 1)", x.mouser(2, 1), -1);
        });
        Check.test("22: so many days at once as one by one", () -> {
            CannonStacks x = Bastions.some();
            CannonStacks y = Bastions.some();
            int rolled = 0;
            for (int day = 0; day < 7; day++) {
                rolled += y.pass(1);
            }
            Check.due("pass(7)", x.pass(7), rolled);
            Check.due("digest()", x.digest(), y.digest());
        });
        Check.test("22: six piles and three cats", () -> {
            CannonStacks x = new CannonStacks();
            x.give(0, 99);
            for (int i = 0; i < 6; i++) {
                x.pile(0, 3);
                x.stack(i, 8);
            }
            x.cat(1);
            x.cat(3);
            x.cat(5);
            Check.due("pass(3)", x.pass(3), 9);
            int[] left = {4, 7, 7, 7, 7, 7};
            for (int pile = 0; pile < 6; pile++) {
                Check.due("about(" + pile + ", 2)", x.about(pile, 2), left[pile]);
            }
        });
    }

    private static void until() {
        Check.test("23: 0 if one is rusty now", () -> Check.due("until(0)", Bastions.withRust(3, 6, 0).until(0), 0));
        Check.test("23: 1 if it has one less than the limit", () -> Check.due("until(0)", Bastions.withRust(3, 5, 0).until(0), 1));
        Check.test("23: -1 without balls", () -> Check.due("until(0)", Bastions.onePile(3, 0).until(0), -1));
        Check.test("23: -1 without balls, with rain, a limit of 1 and cats", () -> {
            CannonStacks x = Bastions.onePile(3, 0);
            x.setRain(3);
            x.setLimit(1);
            x.cat(1);
            Check.due("until(0)", x.until(0), -1);
        });
        Check.test("23: the longest, by a limit of 9 without rain", () -> {
            CannonStacks x = Bastions.onePile(6, 91);
            x.setLimit(9);
            Check.due("until(0)", x.until(0), 9);
        });
        Check.test("23: by a limit of 1, with and without rain", () -> {
            CannonStacks x = Bastions.onePile(6, 91);
            x.setLimit(1);
            Check.due("until(0)", x.until(0), 1);
            x.setRain(3);
            Check.due("until(0)", x.until(0), 1);
        });
        for (int rain = 0; rain <= 3; rain++) {
            int its = rain;
            Check.test("23: by a limit of 9 and a rain of " + rain, () -> {
                CannonStacks x = Bastions.onePile(2, 5);
                x.setLimit(9);
                x.setRain(its);
                Check.due("until(0)", x.until(0), new int[] {9, 5, 3, 3}[its]);
            });
        }
        Check.test("23: just so many days as the pass that makes one rusty", () -> {
            CannonStacks x = Bastions.onePile(2, 5);
            x.setLimit(9);
            x.setRain(1);
            Check.due("until(0)", x.until(0), 5);
            x.pass(4);
            Check.due("about(0, 7)", x.about(0, 7), 0);
            Check.due("until(0)", x.until(0), 1);
            x.pass(1);
            Check.due("about(0, 7)", x.about(0, 7), 1);
            Check.due("until(0)", x.until(0), 0);
        });
        Check.test("23: -1 as all of them roll off before", () -> {
            CannonStacks x = Bastions.onePile(6, 5);
            x.cat(1);
            Check.due("until(0)", x.until(0), -1);
        });
        Check.test("23: one is left just long enough", () -> {
            CannonStacks x = Bastions.onePile(6, 7);
            x.cat(1);
            Check.due("until(0)", x.until(0), 6);
        });
        Check.test("23: a covered one may be the first", () -> {
            CannonStacks x = Bastions.withRust(2, 5, 5, 5, 5);
            x.stack(0, 1);
            x.setRain(2);
            Check.due("until(0)", x.until(0), 1);
            x.setRain(1);
            Check.due("until(0)", x.until(0), 3);
        });
        Check.test("23: a pile for itself, though another one is rusty", () -> {
            CannonStacks x = Bastions.withRust(3, 6);
            x.pile(0, 3);
            x.stack(1, 1);
            x.pile(0, 3);
            Check.due("until(0)", x.until(0), 0);
            Check.due("until(1)", x.until(1), 6);
            Check.due("until(2)", x.until(2), -1);
        });
        Check.test("23: nothing is changed, and it answers the same again", () -> {
            CannonStacks x = Bastions.some();
            CannonStacks y = Bastions.some();
            for (int i = 0; i < 3; i++) {
                Check.due("until(0)", x.until(0), y.until(0));
            }
            Check.due("digest()", x.digest(), y.digest());
            Check.due("pass(5)", x.pass(5), y.pass(5));
            Check.due("digest()", x.digest(), y.digest());
        });
    }

    private static void foresee() {
        Check.test("24: without piles, cats and balls", () -> {
            for (int what = 4; what <= 6; what++) {
                Check.due("foresee(30, " + what + ")", new CannonStacks().foresee(30, what), 0);
            }
        });
        Check.test("24: one day, and 30", () -> {
            CannonStacks x = Bastions.onePile(6, 35);
            x.cat(1);
            Check.due("foresee(1, 4)", x.foresee(1, 4), 1);
            Check.due("foresee(1, 5)", x.foresee(1, 5), 34);
            Check.due("foresee(1, 6)", x.foresee(1, 6), 0);
            Check.due("foresee(30, 4)", x.foresee(30, 4), 30);
            Check.due("foresee(30, 5)", x.foresee(30, 5), 5);
            Check.due("foresee(30, 6)", x.foresee(30, 6), 5);
        });
        Check.test("24: the loose ones of now count as well", () -> {
            CannonStacks x = Bastions.onePile(6, 35);
            x.cat(1);
            x.pass(3);
            Check.due("foresee(1, 4)", x.foresee(1, 4), 4);
            x.gather();
            Check.due("foresee(1, 4)", x.foresee(1, 4), 1);
        });
        Check.test("24: rusty just on the day", () -> {
            CannonStacks x = Bastions.onePile(2, 4);
            Check.due("foresee(5, 6)", x.foresee(5, 6), 0);
            Check.due("foresee(6, 6)", x.foresee(6, 6), 4);
        });
        for (int days : new int[] {1, 2, 29, 30}) {
            Check.test("24: as pass(" + days + ") brings it", () -> {
                CannonStacks x = Bastions.most();
                CannonStacks y = Bastions.most();
                y.pass(days);
                for (int what = 4; what <= 6; what++) {
                    Check.due("foresee(" + days + ", " + what + ")", x.foresee(days, what), y.count(what));
                }
            });
        }
        Check.test("24: nothing is changed, and it answers the same again", () -> {
            CannonStacks x = Bastions.most();
            CannonStacks y = Bastions.most();
            for (int i = 0; i < 3; i++) {
                Check.due("foresee(30, 4)", x.foresee(30, 4), y.foresee(30, 4));
            }
            Check.due("digest()", x.digest(), y.digest());
            Check.due("pass(5)", x.pass(5), y.pass(5));
            Check.due("digest()", x.digest(), y.digest());
        });
        Check.test("24: balls and piles that came between are seen", () -> {
            CannonStacks x = Bastions.onePile(2, 4);
            Check.due("foresee(30, 5)", x.foresee(30, 5), 4);
            x.fire(0, 2);
            x.pile(0, 3);
            x.stack(1, 9);
            x.cat(1);
            Check.due("foresee(30, 5)", x.foresee(30, 5), 9);
            Check.due("foresee(30, 4)", x.foresee(30, 4), 2);
        });
    }

    private static void would() {
        Check.test("25: without balls", () -> Check.due("would(0)", Bastions.onePile(3, 0).would(0), 0));
        Check.test("25: none rusty", () -> Check.due("would(0)", Bastions.onePile(3, 14).would(0), 3));
        Check.test("25: all rusty", () -> Check.due("would(0)", Bastions.withRust(3, 9, 8, 6).would(0), 0));
        Check.test("25: one is left", () -> Check.due("would(0)", Bastions.withRust(3, 9, 8, 5).would(0), 1));
        Check.test("25: a layer that is just full is left", () -> {
            CannonStacks x = Bastions.withRust(3, 6, 0);
            x.stack(0, 8);
            Check.due("about(0, 4)", x.about(0, 4), 2);
            Check.due("would(0)", x.would(0), 1);
        });
        Check.test("25: one more than a full layer is left", () -> {
            CannonStacks x = Bastions.withRust(3, 6, 0);
            x.stack(0, 9);
            Check.due("would(0)", x.would(0), 2);
        });
        Check.test("25: of a full pile, the top one is rusty", () -> {
            CannonStacks x = Bastions.onePile(6, 91);
            x.pass(6);
            Check.due("about(0, 4)", x.about(0, 4), 6);
            Check.due("would(0)", x.would(0), 5);
        });
        Check.test("25: by a limit of 1 and of 9", () -> {
            CannonStacks x = Bastions.withRust(2, 9, 8, 1, 1);
            x.stack(0, 1);
            x.setLimit(9);
            Check.due("would(0)", x.would(0), 1);
            x.setLimit(1);
            Check.due("would(0)", x.would(0), 1);
            x.fire(0, 1);
            Check.due("would(0)", x.would(0), 0);
        });
        Check.test("25: nothing is changed", () -> {
            CannonStacks x = Bastions.withRust(3, 9, 8, 5);
            long before = x.digest();
            x.would(0);
            Check.due("digest()", x.digest(), before);
        });
    }

    /** Piles with these balls each, all of them bare and rusty. */
    private static CannonStacks allRusty(int... balls) {
        CannonStacks x = new CannonStacks();
        x.give(0, 99);
        for (int i = 0; i < balls.length; i++) {
            x.pile(0, 6);
            if (balls[i] > 0) {
                x.stack(i, balls[i]);
            }
        }
        x.pass(6);
        return x;
    }

    private static void advise() {
        Check.test("26: -1 without piles", () -> Check.due("advise()", new CannonStacks().advise(), -1));
        Check.test("26: -1 without balls", () -> Check.due("advise()", allRusty(0, 0).advise(), -1));
        Check.test("26: -1 as none is rusty, one less than the limit", () -> Check.due("advise()", Bastions.withRust(3, 5).advise(), -1));
        Check.test("26: 0, the only pile", () -> Check.due("advise()", allRusty(1).advise(), 0));
        Check.test("26: one rusty ball, on the last of six piles", () -> {
            Check.due("advise()", allRusty(0, 0, 0, 0, 0, 1).advise(), 5);
        });
        Check.test("26: the most rusty ones, though it has more balls", () -> Check.due("advise()", allRusty(2, 7, 6).advise(), 1));
        Check.test("26: of six alike, the smallest number", () -> {
            Check.due("advise()", allRusty(3, 3, 3, 3, 3, 3).advise(), 0);
        });
        Check.test("26: of several alike behind others, the smallest number", () -> {
            Check.due("advise()", allRusty(2, 0, 3, 1, 3, 3).advise(), 2);
        });
        Check.test("26: of several with the most, the fewest balls, behind it", () -> {
            CannonStacks x = allRusty(3, 3, 3);
            x.stack(0, 2);
            x.stack(1, 1);
            x.stack(2, 1);
            Check.due("advise()", x.advise(), 1);
        });
        Check.test("26: of several with the most, the fewest balls, ahead of it", () -> {
            CannonStacks x = allRusty(3, 3, 3);
            x.stack(1, 1);
            x.stack(2, 1);
            Check.due("advise()", x.advise(), 0);
        });
        Check.test("26: fewer balls do not matter before rusty ones", () -> {
            CannonStacks x = allRusty(2, 1);
            x.stack(0, 20);
            Check.due("advise()", x.advise(), 0);
        });
    }

    private static void mean() {
        Check.test("27: 0 without piles", () -> Check.dueMean("mean()", new CannonStacks().mean(), 0.0));
        Check.test("27: 0 without balls in piles, though the store has some", () -> {
            Check.dueMean("mean()", Bastions.onePile(3, 0).mean(), 0.0);
        });
        Check.test("27: 0 as all are fired", () -> {
            CannonStacks x = Bastions.withRust(3, 9, 9);
            x.fire(0, 2);
            Check.dueMean("mean()", x.mean(), 0.0);
        });
        Check.test("27: 0 as none has rust", () -> Check.dueMean("mean()", Bastions.onePile(6, 91).mean(), 0.0));
        Check.test("27: 9 as all have 9", () -> Check.dueMean("mean()", Bastions.withRust(3, 9, 9, 9).mean(), 9.0));
        Check.test("27: not whole", () -> Check.dueMean("mean()", Bastions.withRust(3, 1, 1, 0).mean(), 2.0 / 3.0));
        Check.test("27: of all balls, not of the piles", () -> {
            CannonStacks x = Bastions.withRust(3, 9);
            x.pile(0, 3);
            x.stack(1, 6);
            x.pile(4, 2);
            Check.dueMean("mean()", x.mean(), 9.0 / 7.0);
        });
        Check.test("27: loose ones and the store don't count", () -> {
            CannonStacks x = Bastions.withRust(3, 5, 3);
            x.cat(1);
            x.pass(1);
            Check.dueMean("mean()", x.mean(), 6.0);
        });
    }

    /** Without any wrap-around but the last one, of which it takes 64 bits. */
    private static BigInteger whole(CannonStacks x) {
        BigInteger d = BigInteger.valueOf(1811);
        for (int what = 0; what <= 10; what++) {
            d = next(d, x.count(what));
        }
        for (int i = 0; i < 25; i++) {
            d = next(d, x.told(i / 5, i % 5));
        }
        int piles = x.count(1);
        for (int pile = 0; pile < piles; pile++) {
            for (int what = 0; what <= 9; what++) {
                d = next(d, x.about(pile, what));
            }
            int balls = x.about(pile, 2);
            for (int ball = 0; ball < balls; ball++) {
                d = next(d, x.ball(pile, ball, 0));
            }
        }
        int cats = x.count(2);
        for (int i = 0; i < 3 * cats; i++) {
            d = next(d, x.mouser(i / 3, i % 3));
        }
        return d;
    }

    private static BigInteger next(BigInteger d, int x) {
        return d.multiply(BigInteger.valueOf(31)).add(BigInteger.valueOf(x));
    }

    private static void dueDigest(CannonStacks x) {
        BigInteger whole = whole(x);
        Check.due("it wraps around", whole.bitLength() > 64 ? 1 : 0, 1);
        Check.due("digest()", x.digest(), whole.longValue());
    }

    private static void changed(String name, Supplier<CannonStacks> made, Consumer<CannonStacks> change) {
        Check.test("28: " + name + " changes it", () -> {
            CannonStacks x = made.get();
            long before = x.digest();
            change.accept(x);
            Check.due("changed", x.digest() != before ? 1 : 0, 1);
            dueDigest(x);
        });
    }

    private static void digest() {
        Check.test("28: it wraps around, a new object", () -> dueDigest(new CannonStacks()));
        Check.test("28: a new object, by a number", () -> {
            // 1811 * 31^36 + 6 * 31^25 (the limit alone is not 0), by the remainder of 2^64.
            BigInteger d = BigInteger.valueOf(31).pow(36).multiply(BigInteger.valueOf(1811))
                .add(BigInteger.valueOf(31).pow(25).multiply(BigInteger.valueOf(6)));
            Check.due("digest()", new CannonStacks().digest(), d.longValue());
        });
        Check.test("28: it wraps around, some of everything", () -> dueDigest(Bastions.some()));
        Check.test("28: it wraps around, six piles and three cats", () -> dueDigest(Bastions.most()));
        Check.test("28: -1 of a cat on the ground", () -> {
            CannonStacks x = new CannonStacks();
            x.cat(1);
            dueDigest(x);
        });
        Check.test("28: cats without piles, piles without cats and balls", () -> {
            CannonStacks x = new CannonStacks();
            x.cat(5);
            x.cat(1);
            dueDigest(x);
            CannonStacks y = new CannonStacks();
            y.pile(4, 6);
            y.pile(0, 1);
            dueDigest(y);
        });
        Check.test("28: the greatest pile", () -> {
            CannonStacks x = Bastions.onePile(6, 91);
            x.setRain(3);
            x.pass(4);
            dueDigest(x);
        });
        Check.test("28: it goes both above and below 0", () -> {
            CannonStacks x = new CannonStacks();
            boolean above = false;
            boolean below = false;
            for (int i = 0; i < 100; i++) {
                x.give(0, 1);
                long d = x.digest();
                above |= d > 0;
                below |= d < 0;
            }
            Check.due("above and below", above && below ? 1 : 0, 1);
            dueDigest(x);
        });
        changed("give", CannonStacks::new, x -> x.give(4, 1));
        changed("pile", CannonStacks::new, x -> x.pile(0, 1));
        changed("cat", CannonStacks::new, x -> x.cat(1));
        changed("setRain", CannonStacks::new, x -> x.setRain(1));
        changed("setLimit", CannonStacks::new, x -> x.setLimit(5));
        changed("pass", CannonStacks::new, x -> x.pass(1));
        changed("stack", Bastions::some, x -> x.stack(2, 1));
        changed("fire", Bastions::some, x -> x.fire(0, 1));
        changed("scour", Bastions::some, x -> x.scour(0));
        changed("inspect", Bastions::some, x -> x.inspect(0));
        changed("shift", Bastions::some, x -> x.shift(1, 0));
        changed("gather", Bastions::some, x -> x.gather());
        changed("chase", Bastions::some, x -> x.chase(0));
    }
}
