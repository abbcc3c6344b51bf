import java.util.function.ToDoubleFunction;

/** The chapter "What it is": an object answers as is due up to its 512th call; and README.md's run. */
public final class UseTest {
    private static final int CALLS = 512;
    private static final int CALLS_OF_MOST = 25;

    private UseTest() {
    }

    public static void main(String[] args) {
        readme();
        greatestNumbers();
        lastCalls();
        Check.end();
    }

    private static void readme() {
        Check.test("README: the run that it tells", () -> {
            CannonStacks bastion = new CannonStacks();
            Check.due("give(2, 40)", bastion.give(2, 40), 40);
            int pile = bastion.pile(2, 3);
            Check.due("pile(2, 3)", pile, 0);
            Check.due("stack(pile, 14)", bastion.stack(pile, 14), 14);
            Check.due("until(pile)", bastion.until(pile), 6);
            Check.due("pass(6)", bastion.pass(6), 0);
            Check.due("inspect(pile)", bastion.inspect(pile), 1);
            Check.due("told(2, 4)", bastion.told(2, 4), 1);
            Check.refused(bastion, "stack(pile, 2)", Check.STATE, () -> bastion.stack(pile, 2));
            Check.refused(bastion, "stack(1, 0)", Check.INDEX, () -> bastion.stack(1, 0));
        });
    }

    private static void greatestNumbers() {
        Check.test("512 calls: the last day that an object sees", () -> {
            CannonStacks x = new CannonStacks();
            for (int i = 1; i < CALLS; i++) {
                x.pass(60);
            }
            Check.due("count(0)", x.count(0), 60 * 511);
        });
        Check.test("512 calls: the greatest store", () -> {
            CannonStacks x = new CannonStacks();
            for (int i = 1; i < CALLS; i++) {
                x.give(4, 99);
            }
            Check.due("give(4, 99)", x.give(4, 99), 99 * 512);
        });
        Check.test("512 calls: piles filled and fired, again and again", () -> {
            CannonStacks x = new CannonStacks();
            x.pile(0, 6);
            x.give(0, 82);
            for (int i = 1; i <= 127; i++) {
                x.give(0, 99);
                x.stack(0, 91);
                x.pass(9);
                Check.due("fire(0, 91)", x.fire(0, 91), 9);
            }
            Check.due("told(0, 3)", x.told(0, 3), 91 * 127);
            Check.due("told(0, 0)", x.told(0, 0), 82 + 8 * 127);
        });
        Check.test("512 calls: thrown away, again and again", () -> {
            CannonStacks x = new CannonStacks();
            x.pile(0, 6);
            x.setRain(3);
            x.setLimit(1);
            for (int i = 1; i <= 127; i++) {
                x.give(0, 91);
                x.stack(0, 91);
                x.pass(1);
                Check.due("inspect(0)", x.inspect(0), 91);
            }
            Check.due("count(8)", x.count(8), 91 * 127);
        });
        Check.test("512 calls: rolled off and gathered, again and again", () -> {
            CannonStacks x = Bastions.onePile(6, 35);
            x.cat(1);
            for (int i = 1; i <= 168; i++) {
                Check.due("pass(60)", x.pass(60), 35);
                Check.due("gather()", x.gather(), 35);
                Check.due("stack(0, 35)", x.stack(0, 35), 35);
            }
            Check.due("mouser(0, 2)", x.mouser(0, 2), 35 * 168);
            Check.due("count(3)", x.count(3), 163);
        });
        Check.test("512 calls: the days to come of the greatest bastion, each time", () -> {
            CannonStacks x = new CannonStacks();
            for (int pile = 0; pile < 6; pile++) {
                x.give(4, 91);
                x.pile(4, 6);
                x.stack(pile, pile < 5 ? 91 : 89);
            }
            for (int leap = 1; leap <= 3; leap++) {
                x.cat(leap);
            }
            x.setLimit(9);
            for (int i = 0; i < 245; i++) {
                Check.due("until(5)", x.until(5), 9);
                Check.due("foresee(30, 5)", x.foresee(30, 5), 541);
            }
        });
    }

    /** The call comes as the first one, and as the 512th behind calls that change nothing. */
    private static void last(String name, ToDoubleFunction<CannonStacks> call) {
        Check.test("512 calls: the last one is " + name, () -> {
            CannonStacks x = Bastions.most();
            CannonStacks y = Bastions.most();
            for (int i = CALLS_OF_MOST + 1; i < CALLS; i++) {
                idle(x, i);
            }
            Check.same(name, call.applyAsDouble(x), call.applyAsDouble(y));
        });
    }

    private static void idle(CannonStacks x, int which) {
        switch (which % 8) {
            case 0: x.until(which % 6); break;
            case 1: x.foresee(1 + which % 30, 4 + which % 3); break;
            case 2: x.would(which % 6); break;
            case 3: x.advise(); break;
            case 4: Check.thrownBy(() -> x.pile(0, 1)); break;
            case 5: Check.thrownBy(() -> x.stack(which % 6, 91)); break;
            case 6: Check.thrownBy(() -> x.shift(0, 1)); break;
            default: x.digest(); break;
        }
    }

    private static void lastCalls() {
        last("give", x -> x.give(1, 9));
        last("setRain", x -> x.setRain(3));
        last("setLimit", x -> x.setLimit(2));
        last("stack", x -> x.stack(2, 2));
        last("fire", x -> x.fire(2, 1));
        last("scour", x -> x.scour(2));
        last("inspect", x -> x.inspect(2));
        last("shift", x -> x.shift(5, 4));
        last("gather", x -> x.gather());
        last("chase", x -> x.chase(0));
        last("at", x -> x.at(2, 0, 0, 1));
        last("room", x -> x.room(20));
        last("side", x -> x.side(2870));
        last("pass", x -> x.pass(60));
        last("until", x -> x.until(2));
        last("foresee", x -> x.foresee(30, 4));
        last("would", x -> x.would(5));
        last("advise", x -> x.advise());
        last("mean", x -> x.mean());
        for (int i = 0; i <= 10; i++) {
            int what = i;
            last("count " + what, x -> x.count(what));
        }
        for (int i = 0; i <= 9; i++) {
            int what = i;
            last("about " + what, x -> x.about(2, what));
        }
        for (int i = 0; i <= 5; i++) {
            int what = i;
            last("ball " + what, x -> x.ball(2, 0, what));
        }
        for (int i = 0; i <= 4; i++) {
            int what = i;
            last("told " + what, x -> x.told(2, what));
        }
        for (int i = 0; i <= 2; i++) {
            int what = i;
            last("mouser " + what, x -> x.mouser(0, what));
        }
        Check.test("512 calls: the last one is digest", () -> {
            CannonStacks x = Bastions.most();
            for (int i = CALLS_OF_MOST + 1; i < CALLS; i++) {
                idle(x, i);
            }
            Check.due("digest()", x.digest(), Bastions.most().digest());
        });
        Check.test("512 calls: the last ones are pile and cat", () -> {
            CannonStacks x = new CannonStacks();
            CannonStacks y = new CannonStacks();
            for (int i = 1; i < CALLS; i++) {
                x.digest();
                y.advise();
            }
            Check.due("pile(4, 6)", x.pile(4, 6), 0);
            Check.due("cat(5)", y.cat(5), 0);
        });
    }
}
