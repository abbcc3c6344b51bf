/** Promises 1 to 6: a new object, pile, cat, give, setRain, setLimit. */
public final class BastionTest {
    private static final int MIN = Integer.MIN_VALUE;
    private static final int MAX = Integer.MAX_VALUE;

    private BastionTest() {
    }

    public static void main(String[] args) {
        newObject();
        pile();
        cat();
        give();
        setRain();
        setLimit();
        Check.end();
    }

    private static void newObject() {
        CannonStacks x = new CannonStacks();
        for (int what = 0; what <= 9; what++) {
            Check.due("1: count(" + what + ")", x.count(what), 0);
        }
        Check.due("1: count(10)", x.count(10), 6);
        for (int calibre = 0; calibre <= 4; calibre++) {
            for (int what = 0; what <= 4; what++) {
                Check.due("1: told(" + calibre + ", " + what + ")", x.told(calibre, what), 0);
            }
        }
        Check.refused(x, "1: about(0, 0)", Check.INDEX, () -> x.about(0, 0));
        Check.refused(x, "1: mouser(0, 0)", Check.INDEX, () -> x.mouser(0, 0));
        CannonStacks other = new CannonStacks();
        other.give(0, 5);
        other.pile(0, 2);
        Check.due("1: an object keeps apart from others", x.count(3) + x.count(1), 0);
    }

    private static void pile() {
        CannonStacks x = new CannonStacks();
        for (int calibre : new int[] {-1, 5, MIN, MAX}) {
            Check.refused(x, "2: pile(" + calibre + ", 1)", Check.INDEX, () -> x.pile(calibre, 1));
            Check.refused(x, "2: pile(" + calibre + ", 0)", Check.INDEX, () -> x.pile(calibre, 0));
        }
        for (int side : new int[] {0, 7, -1, MIN, MAX}) {
            Check.refused(x, "2: pile(0, " + side + ")", Check.ARGUMENT, () -> x.pile(0, side));
        }
        for (int number = 0; number < 6; number++) {
            int calibre = Math.min(number, 4);
            Check.due("2: pile", x.pile(calibre, number + 1), number);
            Check.due("2: its calibre", x.about(number, 0), calibre);
            Check.due("2: its side", x.about(number, 1), number + 1);
            Check.due("2: its balls", x.about(number, 2), 0);
            Check.due("2: piles", x.count(1), number + 1);
        }
        Check.refused(x, "2: pile(0, 1), the seventh", Check.STATE, () -> x.pile(0, 1));
        Check.refused(x, "2: pile(0, 7), the seventh", Check.ARGUMENT, () -> x.pile(0, 7));
        Check.refused(x, "2: pile(5, 7), the seventh", Check.INDEX, () -> x.pile(5, 7));
    }

    private static void cat() {
        CannonStacks x = new CannonStacks();
        for (int leap : new int[] {0, 6, -1, MIN, MAX}) {
            Check.refused(x, "3: cat(" + leap + ")", Check.ARGUMENT, () -> x.cat(leap));
        }
        int[] leaps = {1, 5, 3};
        for (int number = 0; number < 3; number++) {
            Check.due("3: cat", x.cat(leaps[number]), number);
            Check.due("3: its leap", x.mouser(number, 0), leaps[number]);
            Check.due("3: its pile", x.mouser(number, 1), -1);
            Check.due("3: what rolled off by it", x.mouser(number, 2), 0);
            Check.due("3: cats", x.count(2), number + 1);
        }
        Check.refused(x, "3: cat(1), the fourth", Check.STATE, () -> x.cat(1));
        Check.refused(x, "3: cat(0), the fourth", Check.ARGUMENT, () -> x.cat(0));
    }

    private static void give() {
        CannonStacks x = new CannonStacks();
        for (int calibre : new int[] {-1, 5, MIN, MAX}) {
            Check.refused(x, "4: give(" + calibre + ", 1)", Check.INDEX, () -> x.give(calibre, 1));
            Check.refused(x, "4: give(" + calibre + ", 0)", Check.INDEX, () -> x.give(calibre, 0));
        }
        for (int many : new int[] {0, 100, -1, MIN, MAX}) {
            Check.refused(x, "4: give(0, " + many + ")", Check.ARGUMENT, () -> x.give(0, many));
        }
        Check.due("4: give(0, 1)", x.give(0, 1), 1);
        Check.due("4: give(4, 99)", x.give(4, 99), 99);
        Check.due("4: give(4, 99) again", x.give(4, 99), 198);
        Check.due("4: told(0, 0)", x.told(0, 0), 1);
        Check.due("4: told(4, 0)", x.told(4, 0), 198);
        Check.due("4: count(3)", x.count(3), 199);
    }

    private static void setRain() {
        CannonStacks x = new CannonStacks();
        for (int rain : new int[] {-1, 4, MIN, MAX}) {
            Check.refused(x, "5: setRain(" + rain + ")", Check.ARGUMENT, () -> x.setRain(rain));
        }
        Check.due("5: setRain(3)", x.setRain(3), 0);
        Check.due("5: setRain(1)", x.setRain(1), 3);
        Check.due("5: count(9)", x.count(9), 1);
        Check.due("5: setRain(0)", x.setRain(0), 1);
    }

    private static void setLimit() {
        CannonStacks x = new CannonStacks();
        for (int limit : new int[] {0, 10, -1, MIN, MAX}) {
            Check.refused(x, "6: setLimit(" + limit + ")", Check.ARGUMENT, () -> x.setLimit(limit));
        }
        Check.due("6: setLimit(1)", x.setLimit(1), 6);
        Check.due("6: setLimit(9)", x.setLimit(9), 1);
        Check.due("6: count(10)", x.count(10), 9);
        x.give(0, 1);
        x.pile(0, 1);
        x.stack(0, 1);
        x.pass(3);
        Check.due("6: rusty by 9", x.count(6), 0);
        Check.due("6: setLimit(3)", x.setLimit(3), 9);
        Check.due("6: rusty by 3", x.count(6), 1);
        x.setLimit(4);
        Check.due("6: rusty by 4", x.count(6), 0);
    }
}
