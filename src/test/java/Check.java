import java.util.Objects;

/** What the tests share: each answer that is not due is printed, and counted. */
final class Check {
    static final Class<?> INDEX = IndexOutOfBoundsException.class;
    static final Class<?> ARGUMENT = IllegalArgumentException.class;
    static final Class<?> STATE = IllegalStateException.class;

    private static int cases = 0;
    private static int checks = 0;
    private static int wrong = 0;

    private Check() {
    }

    /** A case of its own: what it throws is told as its fault, and the other cases go on. */
    static void test(String name, Runnable run) {
        int checksBefore = checks;
        int wrongBefore = wrong;
        cases++;
        Class<?> thrown = thrownBy(run);
        if (thrown != null) {
            tell("threw " + thrown);
        } else if (checks == checksBefore) {
            tell("checked nothing");
        }
        if (wrong != wrongBefore) {
            System.out.println("  in the case: " + name);
        }
    }

    static void due(String call, long got, long want) {
        checks++;
        if (got != want) {
            tell(call + " answered " + got + ", due is " + want);
        }
    }

    static void same(String what, Object got, Object want) {
        checks++;
        if (!Objects.equals(got, want)) {
            tell(what + " is " + got + ", due is " + want);
        }
    }

    static void dueMean(String call, double got, double want) {
        checks++;
        if (got != want) {
            tell(call + " answered " + got + ", due is " + want);
        }
    }

    /** The pile has just these balls, told by their rust. */
    static void dueRust(CannonStacks x, int pile, int... want) {
        due("balls of the pile " + pile, x.about(pile, 2), want.length);
        for (int ball = 0; ball < want.length; ball++) {
            due("rust of the ball " + ball, x.ball(pile, ball, 0), want[ball]);
        }
    }

    /** The call throws just this class, and changes nothing that the digest tells. */
    static void refused(CannonStacks x, String call, Class<?> want, Runnable run) {
        long before = x.digest();
        Class<?> got = thrownBy(run);
        checks++;
        if (got != want) {
            tell(call + " threw " + got + ", due is " + want);
        }
        due(call + ": digest behind it", x.digest(), before);
    }

    static Class<?> thrownBy(Runnable run) {
        try {
            run.run();
            return null;
        } catch (RuntimeException e) {
            return e.getClass();
        }
    }

    static void tell(String fault) {
        wrong++;
        System.out.println(fault);
    }

    static void end() {
        System.out.println((cases > 0 ? cases + " cases, " : "") + checks + " checks, " + wrong + " wrong");
        if (wrong != 0 || checks == 0) {
            System.exit(1);
        }
    }
}
