/** Promises 20 and 21: room, side. */
public final class PyramidsTest {
    private static final int MIN = Integer.MIN_VALUE;
    private static final int MAX = Integer.MAX_VALUE;

    private PyramidsTest() {
    }

    public static void main(String[] args) {
        CannonStacks x = new CannonStacks();
        for (int bad : new int[] {0, 21, -1, MIN, MAX}) {
            Check.refused(x, "20: room(" + bad + ")", Check.ARGUMENT, () -> x.room(bad));
        }
        for (int bad : new int[] {0, 2871, -1, MIN, MAX}) {
            Check.refused(x, "21: side(" + bad + ")", Check.ARGUMENT, () -> x.side(bad));
        }
        int room = 0;
        for (int side = 1; side <= 20; side++) {
            Check.due("21: side(" + (room + 1) + ")", x.side(room + 1), side);
            room += side * side;
            Check.due("20: room(" + side + ")", x.room(side), room);
            Check.due("21: side(" + room + ")", x.side(room), side);
        }
        Check.due("20: room of the greatest", room, 2870);
        Check.end();
    }
}
