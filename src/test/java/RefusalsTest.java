import java.util.function.Supplier;

/**
 * The rows behind "Throws", each with a case of its own: the least and the greatest number that are
 * allowed, one less, one more, the least and the greatest int; which exception is thrown if several
 * apply; and that a refused call changes nothing.
 */
public final class RefusalsTest {
    private static final int MIN = Integer.MIN_VALUE;
    private static final int MAX = Integer.MAX_VALUE;
    private static final Class<?> INDEX = Check.INDEX;
    private static final Class<?> ARGUMENT = Check.ARGUMENT;
    private static final Class<?> STATE = Check.STATE;

    private interface Call {
        void on(CannonStacks x);
    }

    private interface CallWith {
        void on(CannonStacks x, int number);
    }

    private RefusalsTest() {
    }

    public static void main(String[] args) {
        bastionRanges();
        workRanges();
        whatThereIsRanges();
        rowsAndPlaces();
        pyramidAndDayRanges();
        noSuchPile();
        noSuchCat();
        noSuchBall();
        fullBastion();
        states();
        firstOfTwoInTheBastion();
        firstOfTwoAtWork();
        firstOfTwoInDays();
        Check.end();
    }

    /** The call is refused on one of two like objects, and both are alike then and for what follows. */
    private static void refused(String name, Supplier<CannonStacks> made, Class<?> want, Call call) {
        Check.test(name, () -> {
            CannonStacks x = made.get();
            CannonStacks twin = made.get();
            Class<?> got = Check.thrownBy(() -> call.on(x));
            Check.same(name, got, want);
            Check.same(name + ": all behind it", Bastions.telling(x), Bastions.telling(twin));
            Check.same(name + ": what follows", goneOn(x), goneOn(twin));
        });
    }

    private static long goneOn(CannonStacks x) {
        x.give(1, 20);
        int piles = x.count(1);
        for (int i = 0; i < piles; i++) {
            int pile = i;
            Check.thrownBy(() -> x.stack(pile, 1));
        }
        x.gather();
        Check.thrownBy(() -> x.shift(0, 1));
        x.pass(3);
        return x.digest();
    }

    private static void allowed(String name, Supplier<CannonStacks> made, Call call) {
        Check.test(name, () -> {
            CannonStacks x = made.get();
            Check.same(name, Check.thrownBy(() -> call.on(x)), null);
        });
    }

    private static void range(String name, Supplier<CannonStacks> made, Class<?> want, int least, int most, CallWith call) {
        allowed(name + ": the least, " + least, made, x -> call.on(x, least));
        allowed(name + ": the greatest, " + most, made, x -> call.on(x, most));
        refused(name + ": one less, " + (least - 1), made, want, x -> call.on(x, least - 1));
        refused(name + ": one more, " + (most + 1), made, want, x -> call.on(x, most + 1));
        refused(name + ": the least int", made, want, x -> call.on(x, MIN));
        refused(name + ": the greatest int", made, want, x -> call.on(x, MAX));
    }

    private static void bastionRanges() {
        range("2: pile, calibre", Bastions::some, INDEX, 0, 4, (x, n) -> x.pile(n, 3));
        range("2: pile, side", Bastions::some, ARGUMENT, 1, 6, (x, n) -> x.pile(2, n));
        range("3: cat, leap", Bastions::some, ARGUMENT, 1, 5, (x, n) -> x.cat(n));
        range("4: give, calibre", Bastions::some, INDEX, 0, 4, (x, n) -> x.give(n, 7));
        range("4: give, many", Bastions::some, ARGUMENT, 1, 99, (x, n) -> x.give(1, n));
        range("5: setRain", Bastions::some, ARGUMENT, 0, 3, (x, n) -> x.setRain(n));
        range("6: setLimit", Bastions::some, ARGUMENT, 1, 9, (x, n) -> x.setLimit(n));
    }

    private static void workRanges() {
        range("7: stack, many", () -> Bastions.onePile(6, 0), ARGUMENT, 1, 91, (x, n) -> x.stack(0, n));
        range("8: fire, many", () -> Bastions.onePile(6, 91), ARGUMENT, 1, 91, (x, n) -> x.fire(0, n));
    }

    private static void whatThereIsRanges() {
        range("14: about, what", Bastions::some, INDEX, 0, 9, (x, n) -> x.about(0, n));
        range("14: about, what, without balls", () -> Bastions.onePile(2, 0), INDEX, 0, 9, (x, n) -> x.about(0, n));
        range("15: ball, what", Bastions::some, INDEX, 0, 5, (x, n) -> x.ball(0, 0, n));
        range("15: ball, what, of a top one", Bastions::some, INDEX, 0, 5, (x, n) -> x.ball(0, x.about(0, 2) - 1, n));
        range("17: told, calibre", Bastions::some, INDEX, 0, 4, (x, n) -> x.told(n, 0));
        range("17: told, what", Bastions::some, INDEX, 0, 4, (x, n) -> x.told(4, n));
        range("18: mouser, what", Bastions::some, INDEX, 0, 2, (x, n) -> x.mouser(1, n));
        range("19: count, what", Bastions::some, INDEX, 0, 10, (x, n) -> x.count(n));
        range("19: count, what, new", CannonStacks::new, INDEX, 0, 10, (x, n) -> x.count(n));
    }

    private static void rowsAndPlaces() {
        range("16: at, layer of a side of 3", Bastions::some, INDEX, 0, 2, (x, n) -> x.at(0, n, 0, 0));
        range("16: at, layer of a side of 1", Bastions::most, INDEX, 0, 0, (x, n) -> x.at(0, n, 0, 0));
        for (int layer = 0; layer < 6; layer++) {
            int its = layer;
            Supplier<CannonStacks> made = () -> Bastions.onePile(6, 70);
            range("16: at, row of layer " + its, made, INDEX, 0, 5 - its, (x, n) -> x.at(0, its, n, 0));
            range("16: at, place of layer " + its, made, INDEX, 0, 5 - its, (x, n) -> x.at(0, its, 0, n));
        }
        refused("16: at, layer, row and place too great", Bastions::some, INDEX, x -> x.at(0, 3, 3, 3));
    }

    private static void pyramidAndDayRanges() {
        range("20: room", Bastions::some, ARGUMENT, 1, 20, (x, n) -> x.room(n));
        range("21: side", Bastions::some, ARGUMENT, 1, 2870, (x, n) -> x.side(n));
        range("22: pass", Bastions::some, ARGUMENT, 1, 60, (x, n) -> x.pass(n));
        range("24: foresee, days", Bastions::some, ARGUMENT, 1, 30, (x, n) -> x.foresee(n, 5));
        range("24: foresee, what", Bastions::some, INDEX, 4, 6, (x, n) -> x.foresee(3, n));
    }

    private static void noSuchPile() {
        pileRange("7: stack", (x, n) -> x.stack(n, 1), () -> stackable(3), () -> stackable(6));
        pileRange("8: fire", (x, n) -> x.fire(n, 1), () -> loaded(3), () -> loaded(6));
        pileRange("9: scour", (x, n) -> x.scour(n), Bastions::some, Bastions::most);
        pileRange("10: inspect", (x, n) -> x.inspect(n), Bastions::some, Bastions::most);
        pileRange("14: about", (x, n) -> x.about(n, 2), Bastions::some, Bastions::most);
        pileRange("15: ball", (x, n) -> x.ball(n, 0, 0), () -> loaded(3), () -> loaded(6));
        pileRange("16: at", (x, n) -> x.at(n, 0, 0, 0), Bastions::some, Bastions::most);
        pileRange("23: until", (x, n) -> x.until(n), Bastions::some, Bastions::most);
        pileRange("25: would", (x, n) -> x.would(n), Bastions::some, Bastions::most);
        pileRange("11: shift from", (x, n) -> x.shift(n, n == 0 ? 1 : 0), () -> loaded(3), () -> loaded(6));
        pileRange("11: shift to", (x, n) -> x.shift(n == 0 ? 1 : 0, n), () -> loaded(3), () -> loaded(6));
    }

    /** Piles of one calibre, empty ones. */
    private static CannonStacks stackable(int piles) {
        CannonStacks x = new CannonStacks();
        x.give(3, 50);
        for (int i = 0; i < piles; i++) {
            x.pile(3, 2);
        }
        return x;
    }

    private static CannonStacks loaded(int piles) {
        CannonStacks x = stackable(piles);
        for (int i = 0; i < piles; i++) {
            x.stack(i, 3);
        }
        return x;
    }

    private static void pileRange(String name, CallWith call, Supplier<CannonStacks> three, Supplier<CannonStacks> six) {
        refused(name + ": no pile at all", CannonStacks::new, INDEX, x -> call.on(x, 0));
        range(name + ": one of three piles", three, INDEX, 0, 2, call);
        range(name + ": one of six piles", six, INDEX, 0, 5, call);
    }

    private static void noSuchCat() {
        catRange("13: chase", (x, n) -> x.chase(n));
        catRange("18: mouser", (x, n) -> x.mouser(n, 1));
    }

    private static void catRange(String name, CallWith call) {
        refused(name + ": no cat at all", CannonStacks::new, INDEX, x -> call.on(x, 0));
        range(name + ": one of two cats", Bastions::some, INDEX, 0, 1, call);
        range(name + ": one of three cats", Bastions::most, INDEX, 0, 2, call);
    }

    private static void noSuchBall() {
        refused("15: ball 0 of a pile without balls", () -> Bastions.onePile(4, 0), INDEX, x -> x.ball(0, 0, 0));
        range("15: the only ball", () -> Bastions.onePile(1, 1), INDEX, 0, 0, (x, n) -> x.ball(0, n, 0));
        range("15: one of 10 balls", () -> Bastions.onePile(3, 10), INDEX, 0, 9, (x, n) -> x.ball(0, n, 0));
        range("15: one of 91 balls", () -> Bastions.onePile(6, 91), INDEX, 0, 90, (x, n) -> x.ball(0, n, 0));
        refused("15: a ball that was fired", () -> {
            CannonStacks x = Bastions.onePile(3, 10);
            x.fire(0, 1);
            return x;
        }, INDEX, x -> x.ball(0, 9, 0));
        refused("15: no such pile, ball nor what", Bastions::some, INDEX, x -> x.ball(3, 99, 6));
    }

    private static void fullBastion() {
        allowed("2: pile, the sixth", () -> stackable(5), x -> x.pile(0, 1));
        refused("2: pile, the seventh", () -> stackable(6), STATE, x -> x.pile(0, 1));
        allowed("3: cat, the third", Bastions::some, x -> x.cat(1));
        refused("3: cat, the fourth", Bastions::most, STATE, x -> x.cat(1));
    }

    private static CannonStacks withStore(int store, int side, int balls) {
        CannonStacks x = new CannonStacks();
        x.give(2, 99);
        x.pile(0, 6);
        x.pile(1, side);
        if (store + balls > 0) {
            x.give(1, store + balls);
        }
        if (balls > 0) {
            x.stack(1, balls);
        }
        return x;
    }

    private static void states() {
        allowed("7: stack, the store has just so many", () -> withStore(5, 6, 0), x -> x.stack(1, 5));
        refused("7: stack, the store has one fewer", () -> withStore(4, 6, 0), STATE, x -> x.stack(1, 5));
        refused("7: stack, the store has none of its calibre", () -> withStore(0, 6, 0), STATE, x -> x.stack(1, 1));
        allowed("7: stack, just so much room", () -> withStore(50, 3, 10), x -> x.stack(1, 4));
        refused("7: stack, room for one fewer", () -> withStore(50, 3, 10), STATE, x -> x.stack(1, 5));
        refused("7: stack, full", () -> withStore(50, 3, 14), STATE, x -> x.stack(1, 1));
        refused("7: stack, full, a side of 1", () -> withStore(50, 1, 1), STATE, x -> x.stack(1, 1));
        refused("7: stack, the store has fewer, and no room", () -> withStore(0, 1, 1), STATE, x -> x.stack(1, 1));
        refused("7: stack, 91 on a lesser side", () -> withStore(91, 5, 0), STATE, x -> x.stack(1, 91));
        allowed("8: fire, all that it has", () -> Bastions.onePile(3, 10), x -> x.fire(0, 10));
        refused("8: fire, one more than it has", () -> Bastions.onePile(3, 10), STATE, x -> x.fire(0, 11));
        refused("8: fire, without balls", () -> Bastions.onePile(3, 0), STATE, x -> x.fire(0, 1));
        refused("8: fire, 91 of 90", () -> Bastions.onePile(6, 90), STATE, x -> x.fire(0, 91));
        refused("11: shift, both are the same", Bastions::some, ARGUMENT, x -> x.shift(0, 0));
        refused("11: shift, both are the same, without balls", () -> stackable(6), ARGUMENT, x -> x.shift(5, 5));
        refused("11: shift, unlike calibres", Bastions::some, ARGUMENT, x -> x.shift(0, 2));
        refused("11: shift, unlike calibres, turned", Bastions::some, ARGUMENT, x -> x.shift(2, 1));
    }

    private static void firstOfTwoInTheBastion() {
        refused("2: calibre before side", Bastions::some, INDEX, x -> x.pile(5, 0));
        refused("2: calibre before six piles", Bastions::most, INDEX, x -> x.pile(-1, 1));
        refused("2: side before six piles", Bastions::most, ARGUMENT, x -> x.pile(0, 7));
        refused("2: calibre before side and six piles", Bastions::most, INDEX, x -> x.pile(5, 7));
        refused("3: leap before three cats", Bastions::most, ARGUMENT, x -> x.cat(6));
        refused("3: leap of 0 before three cats", Bastions::most, ARGUMENT, x -> x.cat(0));
        refused("4: calibre before many", Bastions::some, INDEX, x -> x.give(5, 0));
        refused("4: calibre before too many", Bastions::some, INDEX, x -> x.give(-1, 100));
    }

    private static void firstOfTwoAtWork() {
        refused("7: pile before many", Bastions::some, INDEX, x -> x.stack(3, 0));
        refused("7: pile before too many", Bastions::some, INDEX, x -> x.stack(-1, 92));
        refused("7: many before the store", () -> withStore(0, 6, 0), ARGUMENT, x -> x.stack(1, 92));
        refused("7: many before the room", () -> withStore(50, 3, 14), ARGUMENT, x -> x.stack(1, 92));
        refused("7: pile before the store", () -> withStore(0, 6, 0), INDEX, x -> x.stack(2, 91));
        refused("8: pile before many", Bastions::some, INDEX, x -> x.fire(3, 0));
        refused("8: pile before too many", Bastions::some, INDEX, x -> x.fire(-1, 92));
        refused("8: many before fewer", Bastions::some, ARGUMENT, x -> x.fire(0, 92));
        refused("8: many of 0 before none", () -> Bastions.onePile(3, 0), ARGUMENT, x -> x.fire(0, 0));
        refused("11: no such pile before the same", Bastions::some, INDEX, x -> x.shift(3, 3));
        refused("11: no such pile before the same, -1", Bastions::some, INDEX, x -> x.shift(-1, -1));
        refused("11: neither pile is there", Bastions::some, INDEX, x -> x.shift(-1, 3));
    }

    private static void firstOfTwoInDays() {
        refused("24: days before what", Bastions::some, ARGUMENT, x -> x.foresee(0, 3));
        refused("24: too many days before what", Bastions::some, ARGUMENT, x -> x.foresee(31, 7));
        refused("24: days before what, the greatest", Bastions::some, ARGUMENT, x -> x.foresee(MAX, MAX));
        refused("24: days before what, the least", Bastions::some, ARGUMENT, x -> x.foresee(MIN, MIN));
    }
}
