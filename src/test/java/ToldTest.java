/** Promises 14 to 19: about, ball, at, told, mouser, count. */
public final class ToldTest {
    private static final int MIN = Integer.MIN_VALUE;
    private static final int MAX = Integer.MAX_VALUE;

    private ToldTest() {
    }

    public static void main(String[] args) {
        about();
        layersAndBareBalls();
        ball();
        ballsOnBalls();
        ballsOfTheGreatestPile();
        at();
        told();
        mouser();
        count();
        Check.end();
    }

    private static void dueAbout(CannonStacks x, String when, int pile, int... want) {
        for (int what = 0; what <= 9; what++) {
            Check.due("14: about(" + pile + ", " + what + ") " + when, x.about(pile, what), want[what]);
        }
    }

    private static void about() {
        CannonStacks x = new CannonStacks();
        Check.refused(x, "14: about(0, 0) without piles", Check.INDEX, () -> x.about(0, 0));
        x.give(3, 99);
        x.pile(3, 4);
        x.pile(0, 6);
        for (int bad : new int[] {-1, 2, 10, MIN, MAX}) {
            Check.refused(x, "14: about(" + bad + ", 0)", Check.INDEX, () -> x.about(bad, 0));
        }
        for (int bad : new int[] {-1, 10, MIN, MAX}) {
            Check.refused(x, "14: about(0, " + bad + ")", Check.INDEX, () -> x.about(0, bad));
        }
        dueAbout(x, "empty", 0, 3, 4, 0, 30, 0, 0, 0, 0, 0, 0);
        dueAbout(x, "empty", 1, 0, 6, 0, 91, 0, 0, 0, 0, 0, 0);
        x.stack(0, 18);
        x.setRain(2);
        x.pass(2);
        // The balls 16 and 17 cover the places 0 to 2 of the rows 0 and 1.
        dueAbout(x, "rusty", 0, 3, 4, 18, 30, 2, 1, 12, 12, 6, 84);
        x.setLimit(7);
        dueAbout(x, "limit 7", 0, 3, 4, 18, 30, 2, 1, 12, 0, 6, 84);
        x.pass(5);
        dueAbout(x, "at most 9", 0, 3, 4, 18, 30, 2, 1, 12, 18, 9, 12 * 9 + 6 * 7);
    }

    private static void layersAndBareBalls() {
        CannonStacks x = new CannonStacks();
        x.give(0, 99);
        x.pile(0, 3);
        int[] layers = {0, 1, 1, 1, 1, 1, 1, 1, 1, 1, 2, 2, 2, 2, 3};
        int[] full = {0, 0, 0, 0, 0, 0, 0, 0, 0, 1, 1, 1, 1, 2, 3};
        int[] bare = {0, 1, 2, 3, 4, 5, 6, 7, 8, 9, 6, 5, 4, 4, 1};
        for (int balls = 1; balls <= 14; balls++) {
            x.stack(0, 1);
            Check.due("14: layers of " + balls, x.about(0, 4), layers[balls]);
            Check.due("14: full layers of " + balls, x.about(0, 5), full[balls]);
            Check.due("14: bare ones of " + balls, x.about(0, 6), bare[balls]);
        }
        x.pile(0, 1);
        x.stack(1, 1);
        x.pass(2);
        Check.due("14: the greatest rust is the only ball's", x.about(1, 8), 2);
        Check.due("14: layers of a pile for one", x.about(1, 4), 1);
        Check.due("14: full ones of it", x.about(1, 5), 1);
        Check.due("14: bare ones of it", x.about(1, 6), 1);
    }

    private static void ball() {
        CannonStacks x = new CannonStacks();
        Check.refused(x, "15: ball(0, 0, 0) without piles", Check.INDEX, () -> x.ball(0, 0, 0));
        x.give(0, 99);
        x.pile(0, 3);
        Check.refused(x, "15: ball(0, 0, 0) without balls", Check.INDEX, () -> x.ball(0, 0, 0));
        x.stack(0, 11);
        for (int bad : new int[] {-1, 1, MIN, MAX}) {
            Check.refused(x, "15: ball(" + bad + ", 0, 0)", Check.INDEX, () -> x.ball(bad, 0, 0));
        }
        for (int bad : new int[] {-1, 11, 91, MIN, MAX}) {
            Check.refused(x, "15: ball(0, " + bad + ", 0)", Check.INDEX, () -> x.ball(0, bad, 0));
        }
        for (int bad : new int[] {-1, 6, MIN, MAX}) {
            Check.refused(x, "15: ball(0, 0, " + bad + ")", Check.INDEX, () -> x.ball(0, 0, bad));
        }
        x.stack(0, 3);
        int[] layers = {0, 0, 0, 0, 0, 0, 0, 0, 0, 1, 1, 1, 1, 2};
        int[] rows = {0, 0, 0, 1, 1, 1, 2, 2, 2, 0, 0, 1, 1, 0};
        int[] places = {0, 1, 2, 0, 1, 2, 0, 1, 2, 0, 1, 0, 1, 0};
        for (int ball = 0; ball < 14; ball++) {
            Check.due("15: layer of " + ball, x.ball(0, ball, 1), layers[ball]);
            Check.due("15: row of " + ball, x.ball(0, ball, 2), rows[ball]);
            Check.due("15: place of " + ball, x.ball(0, ball, 3), places[ball]);
        }
        x.setRain(3);
        x.pass(1);
        Check.due("15: rust of a bare one", x.ball(0, 13, 0), 4);
        Check.due("15: rust of a covered one", x.ball(0, 12, 0), 1);
    }

    private static void ballsOnBalls() {
        CannonStacks x = new CannonStacks();
        x.give(0, 99);
        x.pile(0, 3);
        x.stack(0, 11);
        int[] on = {1, 2, 1, 1, 2, 1, 0, 0, 0, 0, 0};
        for (int ball = 0; ball < 11; ball++) {
            Check.due("15: balls on " + ball + " of 11", x.ball(0, ball, 5), on[ball]);
            Check.due("15: covered: " + ball + " of 11", x.ball(0, ball, 4), on[ball] > 0 ? 1 : 0);
        }
        x.stack(0, 3);
        int[] onFull = {1, 2, 1, 2, 4, 2, 1, 2, 1, 1, 1, 1, 1, 0};
        for (int ball = 0; ball < 14; ball++) {
            Check.due("15: balls on " + ball + " of 14", x.ball(0, ball, 5), onFull[ball]);
            Check.due("15: covered: " + ball + " of 14", x.ball(0, ball, 4), onFull[ball] > 0 ? 1 : 0);
        }
    }

    private static void ballsOfTheGreatestPile() {
        CannonStacks x = new CannonStacks();
        x.give(0, 99);
        x.pile(0, 6);
        x.stack(0, 91);
        int ball = 0;
        for (int layer = 0; layer < 6; layer++) {
            for (int row = 0; row < 6 - layer; row++) {
                for (int place = 0; place < 6 - layer; place++) {
                    Check.due("15: layer of " + ball + " of 91", x.ball(0, ball, 1), layer);
                    Check.due("15: row of " + ball + " of 91", x.ball(0, ball, 2), row);
                    Check.due("15: place of " + ball + " of 91", x.ball(0, ball, 3), place);
                    Check.due("16: at, " + ball + " of 91", x.at(0, layer, row, place), ball);
                    ball++;
                }
            }
        }
        Check.refused(x, "15: ball(0, 91, 0)", Check.INDEX, () -> x.ball(0, 91, 0));
        x.pass(1);
        dueAbout(x, "the greatest", 0, 0, 6, 91, 91, 6, 6, 1, 0, 1, 1);
    }

    private static void at() {
        CannonStacks x = new CannonStacks();
        Check.refused(x, "16: at(0, 0, 0, 0) without piles", Check.INDEX, () -> x.at(0, 0, 0, 0));
        x.give(0, 99);
        x.pile(0, 4);
        for (int bad : new int[] {-1, 1, MIN, MAX}) {
            Check.refused(x, "16: at(" + bad + ", 0, 0, 0)", Check.INDEX, () -> x.at(bad, 0, 0, 0));
        }
        for (int bad : new int[] {-1, 4, MIN, MAX}) {
            Check.refused(x, "16: at(0, " + bad + ", 0, 0)", Check.INDEX, () -> x.at(0, bad, 0, 0));
        }
        for (int layer = 0; layer < 4; layer++) {
            int itsLayer = layer;
            for (int bad : new int[] {-1, 4 - layer, MIN, MAX}) {
                Check.refused(x, "16: row " + bad, Check.INDEX, () -> x.at(0, itsLayer, bad, 0));
                Check.refused(x, "16: place " + bad, Check.INDEX, () -> x.at(0, itsLayer, 0, bad));
            }
        }
        Check.due("16: at(0, 0, 0, 0), empty", x.at(0, 0, 0, 0), -1);
        x.stack(0, 28);
        int ball = 0;
        for (int layer = 0; layer < 4; layer++) {
            for (int row = 0; row < 4 - layer; row++) {
                for (int place = 0; place < 4 - layer; place++) {
                    Check.due("16: at(0, " + layer + ", " + row + ", " + place + ")",
                        x.at(0, layer, row, place), ball < 28 ? ball : -1);
                    ball++;
                }
            }
        }
    }

    private static void told() {
        CannonStacks x = new CannonStacks();
        for (int bad : new int[] {-1, 5, MIN, MAX}) {
            Check.refused(x, "17: told(" + bad + ", 0)", Check.INDEX, () -> x.told(bad, 0));
            Check.refused(x, "17: told(0, " + bad + ")", Check.INDEX, () -> x.told(0, bad));
        }
        x.give(1, 50);
        x.give(2, 40);
        x.pile(1, 3);
        x.pile(1, 3);
        x.pile(2, 3);
        x.stack(0, 8);
        x.stack(1, 9);
        x.stack(2, 7);
        x.cat(2);
        x.pass(2);
        x.fire(1, 2);
        x.fire(2, 1);
        x.fire(2, 1);
        x.setLimit(2);
        x.inspect(0);
        int[] want1 = {33, 1, 7, 2, 7};
        int[] want2 = {33, 1, 4, 2, 0};
        for (int what = 0; what <= 4; what++) {
            Check.due("17: told(1, " + what + ")", x.told(1, what), want1[what]);
            Check.due("17: told(2, " + what + ")", x.told(2, what), want2[what]);
            Check.due("17: told(0, " + what + ")", x.told(0, what), 0);
        }
        x.stack(0, 3);
        Check.due("17: told(1, 2) of two piles", x.told(1, 2), 10);
    }

    private static void mouser() {
        CannonStacks x = new CannonStacks();
        Check.refused(x, "18: mouser(0, 0) without cats", Check.INDEX, () -> x.mouser(0, 0));
        x.cat(5);
        x.cat(1);
        for (int bad : new int[] {-1, 2, MIN, MAX}) {
            Check.refused(x, "18: mouser(" + bad + ", 0)", Check.INDEX, () -> x.mouser(bad, 0));
        }
        for (int bad : new int[] {-1, 3, MIN, MAX}) {
            Check.refused(x, "18: mouser(0, " + bad + ")", Check.INDEX, () -> x.mouser(0, bad));
        }
        x.give(0, 20);
        x.pile(0, 3);
        x.pile(0, 3);
        x.pile(0, 3);
        x.stack(0, 9);
        x.stack(2, 6);
        x.pass(2);
        int[] want0 = {5, 2, 1};
        int[] want1 = {1, 1, 0};
        for (int what = 0; what <= 2; what++) {
            Check.due("18: mouser(0, " + what + ")", x.mouser(0, what), want0[what]);
            Check.due("18: mouser(1, " + what + ")", x.mouser(1, what), want1[what]);
        }
        x.chase(0);
        Check.due("18: mouser(0, 1), on the ground", x.mouser(0, 1), -1);
        Check.due("18: mouser(0, 2), chased", x.mouser(0, 2), 1);
    }

    private static void count() {
        CannonStacks x = new CannonStacks();
        for (int bad : new int[] {-1, 11, MIN, MAX}) {
            Check.refused(x, "19: count(" + bad + ")", Check.INDEX, () -> x.count(bad));
        }
        x.give(1, 50);
        x.give(2, 40);
        x.pile(1, 3);
        x.pile(2, 3);
        x.stack(0, 8);
        x.stack(1, 9);
        x.cat(1);
        x.setRain(1);
        x.pass(1);
        x.setLimit(2);
        x.inspect(0);
        x.fire(1, 2);
        int[] want = {1, 2, 1, 73, 1, 7, 7, 2, 7, 1, 2};
        for (int what = 0; what <= 10; what++) {
            Check.due("19: count(" + what + ")", x.count(what), want[what]);
        }
    }
}
