/** Promises 7 to 13: stack, fire, scour, inspect, shift, gather, chase. */
public final class WorkTest {
    private static final int MIN = Integer.MIN_VALUE;
    private static final int MAX = Integer.MAX_VALUE;

    private WorkTest() {
    }

    public static void main(String[] args) {
        stack();
        fire();
        scour();
        inspect();
        shift();
        shiftTurnsTheOrder();
        gather();
        chase();
        Check.end();
    }

    private static void stack() {
        CannonStacks x = new CannonStacks();
        x.give(2, 99);
        x.give(3, 99);
        Check.refused(x, "7: stack(0, 1) without piles", Check.INDEX, () -> x.stack(0, 1));
        x.pile(2, 6);
        x.pile(3, 2);
        for (int pile : new int[] {-1, 2, 6, MIN, MAX}) {
            Check.refused(x, "7: stack(" + pile + ", 1)", Check.INDEX, () -> x.stack(pile, 1));
            Check.refused(x, "7: stack(" + pile + ", 0)", Check.INDEX, () -> x.stack(pile, 0));
        }
        for (int many : new int[] {0, 92, -1, MIN, MAX}) {
            Check.refused(x, "7: stack(0, " + many + ")", Check.ARGUMENT, () -> x.stack(0, many));
        }
        Check.refused(x, "7: stack(1, 6), no room", Check.STATE, () -> x.stack(1, 6));
        Check.refused(x, "7: stack(1, 92), no room", Check.ARGUMENT, () -> x.stack(1, 92));
        Check.due("7: stack(1, 5)", x.stack(1, 5), 5);
        Check.refused(x, "7: stack(1, 1), full", Check.STATE, () -> x.stack(1, 1));
        Check.due("7: stack(0, 1)", x.stack(0, 1), 1);
        Check.due("7: stack(0, 90)", x.stack(0, 90), 91);
        Check.due("7: told(2, 0)", x.told(2, 0), 8);
        Check.due("7: told(3, 0)", x.told(3, 0), 94);
        Check.due("7: told(2, 2)", x.told(2, 2), 91);
        Check.due("7: without rust", x.about(0, 9), 0);
        x.pile(2, 3);
        Check.refused(x, "7: stack(2, 9), the store has 8", Check.STATE, () -> x.stack(2, 9));
        Check.due("7: stack(2, 8)", x.stack(2, 8), 8);
        Check.due("7: told(2, 0), none left", x.told(2, 0), 0);
    }

    private static void fire() {
        CannonStacks x = new CannonStacks();
        x.give(1, 20);
        x.pile(1, 3);
        x.stack(0, 14);
        x.setRain(1);
        for (int pile : new int[] {-1, 1, MIN, MAX}) {
            Check.refused(x, "8: fire(" + pile + ", 1)", Check.INDEX, () -> x.fire(pile, 1));
            Check.refused(x, "8: fire(" + pile + ", 0)", Check.INDEX, () -> x.fire(pile, 0));
        }
        for (int many : new int[] {0, 92, -1, MIN, MAX}) {
            Check.refused(x, "8: fire(0, " + many + ")", Check.ARGUMENT, () -> x.fire(0, many));
        }
        Check.refused(x, "8: fire(0, 15)", Check.STATE, () -> x.fire(0, 15));
        x.pass(1);
        Check.due("8: fire(0, 2), the top one bare, the next covered", x.fire(0, 2), 2);
        Check.due("8: balls then", x.about(0, 2), 12);
        x.pass(2);
        Check.due("8: fire(0, 12): three of layer 1, and below them one bare for two days", x.fire(0, 12), 16);
        Check.due("8: told(1, 3)", x.told(1, 3), 14);
        Check.due("8: told(1, 4)", x.told(1, 4), 0);
        Check.due("8: count(7)", x.count(7), 14);
        Check.due("8: balls then", x.about(0, 2), 0);
        Check.refused(x, "8: fire(0, 1), empty", Check.STATE, () -> x.fire(0, 1));
        Check.due("8: the store keeps what it has", x.told(1, 0), 6);
    }

    private static void scour() {
        CannonStacks x = new CannonStacks();
        x.give(0, 50);
        x.pile(0, 2);
        for (int pile : new int[] {-1, 1, MIN, MAX}) {
            Check.refused(x, "9: scour(" + pile + ")", Check.INDEX, () -> x.scour(pile));
        }
        Check.due("9: scour of none", x.scour(0), 0);
        x.stack(0, 4);
        x.pass(5);
        x.stack(0, 1);
        x.pass(2);
        Check.due("9: rust", x.about(0, 9), 22);
        Check.due("9: scour leaves the covered ones", x.scour(0), 2);
        Check.due("9: at least 0", x.ball(0, 4, 0), 0);
        Check.due("9: covered", x.ball(0, 0, 0), 5);
        x.fire(0, 1);
        Check.due("9: scour of four", x.scour(0), 12);
        Check.due("9: rust then", x.ball(0, 3, 0), 2);
        Check.due("9: scour again", x.scour(0), 8);
        Check.due("9: scour without rust", x.scour(0), 0);
    }

    private static void inspect() {
        CannonStacks x = new CannonStacks();
        x.give(4, 50);
        x.pile(4, 3);
        for (int pile : new int[] {-1, 1, MIN, MAX}) {
            Check.refused(x, "10: inspect(" + pile + ")", Check.INDEX, () -> x.inspect(pile));
        }
        Check.due("10: inspect of none", x.inspect(0), 0);
        x.stack(0, 3);
        x.pass(2);
        x.stack(0, 2);
        x.pass(3);
        x.stack(0, 6);
        // The balls 9 and 10 cover 0 to 5 on the last day alone.
        x.pass(1);
        long[] rusts = {5, 5, 5, 3, 3, 0, 1, 1, 1, 1, 1};
        for (int ball = 0; ball < 11; ball++) {
            Check.due("10: rust of " + ball, x.ball(0, ball, 0), rusts[ball]);
        }
        Check.due("10: inspect, none rusty", x.inspect(0), 0);
        x.setLimit(3);
        Check.due("10: inspect", x.inspect(0), 5);
        Check.due("10: balls then", x.about(0, 2), 6);
        Check.due("10: the others keep their order: 0", x.ball(0, 0, 0), 0);
        Check.due("10: the others keep their order: 1", x.ball(0, 1, 0), 1);
        Check.due("10: none is covered then", x.about(0, 6), 6);
        Check.due("10: told(4, 4)", x.told(4, 4), 5);
        Check.due("10: told(4, 3)", x.told(4, 3), 0);
        Check.due("10: count(8)", x.count(8), 5);
        x.setLimit(1);
        Check.due("10: inspect of the top ones", x.inspect(0), 5);
        Check.due("10: inspect again", x.inspect(0), 0);
        Check.due("10: told(4, 4)", x.told(4, 4), 10);
        Check.due("10: told(4, 0)", x.told(4, 0), 39);
    }

    private static void shift() {
        CannonStacks x = new CannonStacks();
        x.give(1, 99);
        x.give(2, 99);
        x.pile(1, 3);
        x.pile(1, 2);
        x.pile(2, 2);
        x.stack(0, 10);
        x.stack(2, 2);
        for (int pile : new int[] {-1, 3, MIN, MAX}) {
            Check.refused(x, "11: shift(" + pile + ", 0)", Check.INDEX, () -> x.shift(pile, 0));
            Check.refused(x, "11: shift(0, " + pile + ")", Check.INDEX, () -> x.shift(0, pile));
            Check.refused(x, "11: shift to itself, not there", Check.INDEX, () -> x.shift(pile, pile));
        }
        Check.refused(x, "11: shift(0, 0)", Check.ARGUMENT, () -> x.shift(0, 0));
        Check.refused(x, "11: shift(0, 2)", Check.ARGUMENT, () -> x.shift(0, 2));
        Check.refused(x, "11: shift(2, 1)", Check.ARGUMENT, () -> x.shift(2, 1));
        Check.due("11: shift(1, 0) of none", x.shift(1, 0), 0);
        Check.due("11: shift(0, 1) as long as there is room", x.shift(0, 1), 5);
        Check.due("11: balls of 0", x.about(0, 2), 5);
        Check.due("11: balls of 1", x.about(1, 2), 5);
        Check.due("11: shift(0, 1), full", x.shift(0, 1), 0);
        Check.due("11: shift(1, 0) as long as there are some", x.shift(1, 0), 5);
        Check.due("11: balls of 0", x.about(0, 2), 10);
        Check.due("11: balls of 1", x.about(1, 2), 0);
        Check.due("11: the store stays", x.told(1, 0), 89);
    }

    private static void shiftTurnsTheOrder() {
        CannonStacks x = new CannonStacks();
        x.give(0, 9);
        x.pile(0, 3);
        x.pile(0, 3);
        for (int i = 0; i < 3; i++) {
            x.stack(0, 1);
            x.pass(1);
        }
        x.stack(1, 1);
        Check.due("11: shift(0, 1)", x.shift(0, 1), 3);
        long[] rusts = {0, 1, 2, 3};
        for (int ball = 0; ball < 4; ball++) {
            Check.due("11: rust of " + ball, x.ball(1, ball, 0), rusts[ball]);
        }
    }

    private static void gather() {
        CannonStacks x = new CannonStacks();
        Check.due("12: gather of none", x.gather(), 0);
        x.give(0, 9);
        x.give(3, 9);
        x.pile(0, 3);
        x.pile(3, 3);
        x.stack(0, 8);
        x.stack(1, 8);
        x.cat(1);
        x.pass(3);
        Check.due("12: told(0, 1)", x.told(0, 1), 2);
        Check.due("12: told(3, 1)", x.told(3, 1), 1);
        Check.due("12: gather", x.gather(), 3);
        Check.due("12: told(0, 0)", x.told(0, 0), 3);
        Check.due("12: told(3, 0)", x.told(3, 0), 2);
        Check.due("12: count(4)", x.count(4), 0);
        Check.due("12: gather again", x.gather(), 0);
        Check.due("12: stack of gathered ones", x.stack(1, 2), 9);
        Check.due("12: their rust is gone", x.ball(1, 8, 0) + x.ball(1, 7, 0), 0);
    }

    private static void chase() {
        CannonStacks x = new CannonStacks();
        Check.refused(x, "13: chase(0) without cats", Check.INDEX, () -> x.chase(0));
        x.cat(2);
        x.pile(0, 1);
        x.pile(0, 1);
        x.pile(0, 1);
        for (int cat : new int[] {-1, 1, MIN, MAX}) {
            Check.refused(x, "13: chase(" + cat + ")", Check.INDEX, () -> x.chase(cat));
        }
        Check.due("13: chase from the ground", x.chase(0), -1);
        x.pass(2);
        Check.due("13: chase", x.chase(0), 2);
        Check.due("13: on the ground then", x.mouser(0, 1), -1);
        Check.due("13: chase again", x.chase(0), -1);
        x.pass(1);
        Check.due("13: it comes to the pile 0 again", x.chase(0), 0);
    }
}
