import java.util.function.DoubleSupplier;

/** Long runs of calls of every kind, right and wrong ones, answered as PlainBastion answers them. */
public final class ModelTest {
    private static final int RUNS = 400;
    private static final int CALLS = 512;

    // Always the same numbers, so that a fault comes again.
    private long seed;

    private ModelTest(long seed) {
        this.seed = seed;
    }

    public static void main(String[] args) {
        for (int run = 0; run < RUNS; run++) {
            new ModelTest(run).compare(run);
        }
        Check.end();
    }

    private int below(int bound) {
        seed = seed * 6364136223846793005L + 1442695040888963407L;
        return (int) Math.floorMod(seed >>> 33, (long) bound);
    }

    /** Mostly one of the range, at times one just outside it, or far away from it. */
    private int around(int least, int most) {
        switch (below(24)) {
            case 0: return least - 1;
            case 1: return most + 1;
            case 2: return below(2) == 0 ? Integer.MIN_VALUE : Integer.MAX_VALUE;
            default: return least + below(most - least + 1);
        }
    }

    private void compare(int run) {
        CannonStacks x = new CannonStacks();
        PlainBastion y = new PlainBastion();
        // Each comparison makes two calls of x: the call itself, and the digest behind it.
        for (int call = 0; call < CALLS / 2; call++) {
            int method = call < 8 ? below(3) : pick();
            int a = first(method);
            int b = second(method);
            int c = around(0, 5);
            int d = around(0, 5);
            String got = answer(() -> real(x, method, a, b, c, d));
            String want = answer(() -> plain(y, method, a, b, c, d));
            if (!got.equals(want)) {
                Check.tell("run " + run + ", call " + call + ": method " + method + " (" + a + ", " + b + ", " + c
                    + ", " + d + ") answered " + got + ", due is " + want);
                return;
            }
            Check.due("run " + run + ", call " + call + ", method " + method + ": digest", x.digest(), y.digest());
        }
    }

    /** Days, stacking and asking what would be come oftener than the rest. */
    private int pick() {
        int method = below(40);
        if (method < 27) {
            return method;
        }
        int[] often = {2, 5, 5, 6, 10, 11, 20, 20, 21, 22, 23, 24, 25};
        return often[method - 27];
    }

    private int first(int method) {
        switch (method) {
            case 1: return around(1, 5);
            case 3: return around(0, 3);
            case 4: return around(1, 9);
            case 12: case 16: return around(0, 2);
            case 17: return around(0, 10);
            case 18: return around(1, 20);
            case 19: return around(1, 2870);
            case 20: return below(4) == 0 ? around(1, 60) : around(1, 3);
            case 22: return around(1, 30);
            case 0: case 2: case 15: return around(0, 4);
            default: return around(0, 5);
        }
    }

    private int second(int method) {
        switch (method) {
            case 0: return around(1, 6);
            case 2: return around(1, 99);
            case 5: case 6: return below(3) == 0 ? around(1, 91) : around(1, 20);
            case 8: return around(0, 5);
            case 13: return around(0, 9);
            case 14: return around(0, 40);
            case 15: return around(0, 4);
            case 16: return around(0, 2);
            case 22: return around(4, 6);
            default: return around(0, 5);
        }
    }

    private static String answer(DoubleSupplier call) {
        try {
            return String.valueOf(call.getAsDouble());
        } catch (RuntimeException e) {
            return e.getClass().getSimpleName();
        }
    }

    private static double real(CannonStacks x, int method, int a, int b, int c, int d) {
        switch (method) {
            case 0: return x.pile(a, b);
            case 1: return x.cat(a);
            case 2: return x.give(a, b);
            case 3: return x.setRain(a);
            case 4: return x.setLimit(a);
            case 5: return x.stack(a, b);
            case 6: return x.fire(a, b);
            case 7: return x.scour(a);
            case 8: return x.shift(a, b);
            case 9: return x.inspect(a);
            case 10: return x.gather();
            case 11: return x.at(a, b, c, d);
            case 12: return x.chase(a);
            case 13: return x.about(a, b);
            case 14: return x.ball(a, b, c);
            case 15: return x.told(a, b);
            case 16: return x.mouser(a, b);
            case 17: return x.count(a);
            case 18: return x.room(a);
            case 19: return x.side(a);
            case 20: return x.pass(a);
            case 21: return x.until(a);
            case 22: return x.foresee(a, b);
            case 23: return x.would(a);
            case 24: return x.advise();
            case 25: return x.mean();
            default: return x.digest();
        }
    }

    private static double plain(PlainBastion y, int method, int a, int b, int c, int d) {
        switch (method) {
            case 0: return y.pile(a, b);
            case 1: return y.cat(a);
            case 2: return y.give(a, b);
            case 3: return y.setRain(a);
            case 4: return y.setLimit(a);
            case 5: return y.stack(a, b);
            case 6: return y.fire(a, b);
            case 7: return y.scour(a);
            case 8: return y.shift(a, b);
            case 9: return y.inspect(a);
            case 10: return y.gather();
            case 11: return y.at(a, b, c, d);
            case 12: return y.chase(a);
            case 13: return y.about(a, b);
            case 14: return y.ball(a, b, c);
            case 15: return y.told(a, b);
            case 16: return y.mouser(a, b);
            case 17: return y.count(a);
            case 18: return y.room(a);
            case 19: return y.side(a);
            case 20: return y.pass(a);
            case 21: return y.until(a);
            case 22: return y.foresee(a, b);
            case 23: return y.would(a);
            case 24: return y.advise();
            case 25: return y.mean();
            default: return y.digest();
        }
    }
}
