/** The chapter "Terms": each sentence that names an edge has a case of its own. */
public final class TermsTest {
    private TermsTest() {
    }

    public static void main(String[] args) {
        store();
        piles();
        balls();
        cats();
        rusty();
        rustOfADay();
        catsOfADay();
        rollingOff();
        looseBalls();
        inspecting();
        Check.end();
    }

    private static void store() {
        Check.test("store: none at first", () -> {
            for (int calibre = 0; calibre <= 4; calibre++) {
                Check.due("told(" + calibre + ", 0)", new CannonStacks().told(calibre, 0), 0);
            }
        });
        Check.test("store: each calibre, 0 to 4, for itself", () -> {
            CannonStacks x = new CannonStacks();
            for (int calibre = 0; calibre <= 4; calibre++) {
                Check.due("give", x.give(calibre, 10 + calibre), 10 + calibre);
            }
            for (int calibre = 0; calibre <= 4; calibre++) {
                Check.due("told(" + calibre + ", 0)", x.told(calibre, 0), 10 + calibre);
            }
        });
        Check.test("store: all without rust, however long they lie there", () -> {
            CannonStacks x = Bastions.onePile(2, 0);
            x.setRain(3);
            x.pass(60);
            x.stack(0, 5);
            Check.due("rust", x.about(0, 9), 0);
        });
    }

    private static void piles() {
        Check.test("piles: numbered from 0 to 5", () -> {
            CannonStacks x = new CannonStacks();
            for (int number = 0; number < 6; number++) {
                Check.due("pile", x.pile(0, 1), number);
            }
        });
        Check.test("piles: a side of 1 has one layer, for one ball", () -> {
            CannonStacks x = Bastions.onePile(1, 1);
            Check.due("about(0, 3)", x.about(0, 3), 1);
            Check.due("about(0, 4)", x.about(0, 4), 1);
            Check.due("about(0, 5)", x.about(0, 5), 1);
            Check.due("at(0, 0, 0, 0)", x.at(0, 0, 0, 0), 0);
        });
        Check.test("piles: a side of 6 has six layers, the last one for one ball", () -> {
            CannonStacks x = Bastions.onePile(6, 91);
            Check.due("about(0, 3)", x.about(0, 3), 91);
            Check.due("about(0, 4)", x.about(0, 4), 6);
            Check.due("about(0, 5)", x.about(0, 5), 6);
            Check.due("at(0, 5, 0, 0)", x.at(0, 5, 0, 0), 90);
        });
        for (int side = 1; side <= 6; side++) {
            int its = side;
            Check.test("layers: one is begun only as the one below is full, side " + side, () -> layersBegun(its));
            Check.test("balls: layer by layer, row by row, by their place, side " + side, () -> numbersInOrder(its));
        }
        Check.test("piles: one without balls has no layer with balls, and no full one", () -> {
            CannonStacks x = Bastions.onePile(3, 0);
            Check.due("about(0, 4)", x.about(0, 4), 0);
            Check.due("about(0, 5)", x.about(0, 5), 0);
        });
    }

    private static void layersBegun(int side) {
        CannonStacks x = Bastions.onePile(side, 0);
        int balls = 0;
        for (int layer = 0; layer < side; layer++) {
            int room = (side - layer) * (side - layer);
            for (int i = 1; i <= room; i++) {
                balls++;
                Check.due("stack", x.stack(0, 1), balls);
                Check.due("layers of " + balls, x.about(0, 4), layer + 1);
                Check.due("full layers of " + balls, x.about(0, 5), i == room ? layer + 1 : layer);
            }
        }
        Check.due("room", x.about(0, 3), balls);
    }

    private static void numbersInOrder(int side) {
        CannonStacks x = Bastions.onePile(side, 0);
        x.stack(0, x.about(0, 3));
        int ball = 0;
        for (int layer = 0; layer < side; layer++) {
            for (int row = 0; row < side - layer; row++) {
                for (int place = 0; place < side - layer; place++) {
                    Check.due("at(0, " + layer + ", " + row + ", " + place + ")", x.at(0, layer, row, place), ball);
                    Check.due("layer of " + ball, x.ball(0, ball, 1), layer);
                    Check.due("row of " + ball, x.ball(0, ball, 2), row);
                    Check.due("place of " + ball, x.ball(0, ball, 3), place);
                    ball++;
                }
            }
        }
    }

    private static void dueOn(int side, int balls, int ball, int on) {
        CannonStacks x = Bastions.onePile(side, balls);
        Check.due("balls on " + ball + " of " + balls, x.ball(0, ball, 5), on);
        Check.due("covered, " + ball + " of " + balls, x.ball(0, ball, 4), on > 0 ? 1 : 0);
    }

    /** A ball at (row, place) of a layer is lain on from the layer above at (row - 1 or row, place - 1 or place). */
    private static void ballsOnEach(int side) {
        int room = Bastions.onePile(side, 0).about(0, 3);
        for (int balls = 1; balls <= room; balls++) {
            CannonStacks x = Bastions.onePile(side, balls);
            int bare = 0;
            int ball = 0;
            int nextLayer = 0;
            for (int layer = 0; layer < side; layer++) {
                int width = side - layer;
                nextLayer += width * width;
                for (; ball < Math.min(balls, nextLayer); ball++) {
                    int place = ball - (nextLayer - width * width);
                    int on = 0;
                    for (int above = nextLayer; above < Math.min(balls, nextLayer + (width - 1) * (width - 1)); above++) {
                        int down = place / width - (above - nextLayer) / (width - 1);
                        int along = place % width - (above - nextLayer) % (width - 1);
                        on += (down == 0 || down == 1) && (along == 0 || along == 1) ? 1 : 0;
                    }
                    Check.due("balls on " + ball + " of " + balls, x.ball(0, ball, 5), on);
                    Check.due("covered: " + ball + " of " + balls, x.ball(0, ball, 4), on > 0 ? 1 : 0);
                    bare += on == 0 ? 1 : 0;
                }
            }
            Check.due("bare ones of " + balls, x.about(0, 6), bare);
        }
    }

    private static void balls() {
        Check.test("balls: the first one of a layer lies on those at rows and places 0 and 1", () -> {
            CannonStacks x = Bastions.onePile(4, 17);
            for (int ball = 0; ball < 17; ball++) {
                boolean below = ball == 0 || ball == 1 || ball == 4 || ball == 5;
                Check.due("balls on " + ball, x.ball(0, ball, 5), below ? 1 : 0);
                Check.due("covered: " + ball, x.ball(0, ball, 4), below ? 1 : 0);
            }
        });
        Check.test("balls: the last one of a layer lies on those at the last two rows and places", () -> {
            CannonStacks x = Bastions.onePile(4, 25);
            CannonStacks y = Bastions.onePile(4, 24);
            for (int ball = 0; ball < 16; ball++) {
                boolean below = ball == 10 || ball == 11 || ball == 14 || ball == 15;
                Check.due("balls on " + ball, x.ball(0, ball, 5) - y.ball(0, ball, 5), below ? 1 : 0);
            }
        });
        Check.test("balls: the last one of a row lies on none at the first place", () -> {
            dueOn(4, 19, 4, 1);
            dueOn(4, 19, 3, 1);
            dueOn(4, 19, 8, 0);
        });
        Check.test("balls: one on each corner ball", () -> {
            for (int corner : new int[] {0, 3, 12, 15}) {
                dueOn(4, 30, corner, 1);
            }
        });
        Check.test("balls: two on each ball at an edge", () -> {
            for (int edge : new int[] {1, 2, 4, 7, 8, 11, 13, 14}) {
                dueOn(4, 30, edge, 2);
            }
        });
        Check.test("balls: four on each ball inside", () -> {
            for (int inside : new int[] {5, 6, 9, 10}) {
                dueOn(4, 30, inside, 4);
            }
        });
        Check.test("balls: covered by one at least, 0 to 4 of them", () -> {
            dueOn(3, 9, 4, 0);
            dueOn(3, 10, 4, 1);
            dueOn(3, 11, 4, 2);
            dueOn(3, 12, 4, 3);
            dueOn(3, 13, 4, 4);
        });
        Check.test("balls: a ball two layers higher lies not on it", () -> {
            dueOn(3, 13, 0, 1);
            dueOn(3, 14, 0, 1);
            dueOn(3, 14, 4, 4);
        });
        for (int side = 1; side <= 6; side++) {
            int its = side;
            Check.test("balls: how many on each one, however many there are, side " + side, () -> ballsOnEach(its));
        }
        Check.test("balls: none on the last one, nor on a single one", () -> {
            dueOn(6, 91, 90, 0);
            dueOn(1, 1, 0, 0);
        });
        Check.test("balls: the top one has the greatest number", () -> {
            CannonStacks x = Bastions.withRust(3, 7, 4, 2);
            Check.due("fire(0, 1)", x.fire(0, 1), 2);
            Check.due("fire(0, 1)", x.fire(0, 1), 4);
            Check.due("fire(0, 1)", x.fire(0, 1), 7);
        });
    }

    private static void cats() {
        Check.test("cats: numbered from 0 to 2, on the ground at first", () -> {
            CannonStacks x = Bastions.onePile(1, 1);
            for (int number = 0; number < 3; number++) {
                Check.due("cat", x.cat(1), number);
                Check.due("mouser(" + number + ", 1)", x.mouser(number, 1), -1);
            }
        });
        Check.test("cats: a leap of 1 and of 5", () -> {
            CannonStacks x = new CannonStacks();
            x.cat(1);
            x.cat(5);
            Check.due("mouser(0, 0)", x.mouser(0, 0), 1);
            Check.due("mouser(1, 0)", x.mouser(1, 0), 5);
        });
    }

    private static void rusty() {
        Check.test("rusty: the limit is 6 at first", () -> {
            CannonStacks x = Bastions.withRust(3, 7, 6, 5, 0);
            Check.due("count(10)", x.count(10), 6);
            Check.due("about(0, 7)", x.about(0, 7), 2);
        });
        Check.test("rusty: by a limit of 1, all with any rust", () -> {
            CannonStacks x = Bastions.withRust(3, 9, 1, 0, 0);
            x.setLimit(1);
            Check.due("about(0, 7)", x.about(0, 7), 2);
        });
        Check.test("rusty: by a limit of 9, those of 9 alone", () -> {
            CannonStacks x = Bastions.withRust(3, 9, 9, 8, 8, 0);
            x.setLimit(9);
            Check.due("about(0, 7)", x.about(0, 7), 2);
        });
        for (int limit = 1; limit <= 9; limit++) {
            int its = limit;
            Check.test("rusty: just the limit of " + limit + ", and one less", () -> {
                CannonStacks x = Bastions.withRust(2, its, its - 1);
                x.setLimit(its);
                Check.due("count(6)", x.count(6), 1);
            });
        }
    }

    /** Side 2, full: the ball 4 is bare, those from 0 to 3 are covered. */
    private static void dueRustByRain(int rain, int days, int bare, int covered) {
        CannonStacks x = Bastions.onePile(2, 5);
        x.setRain(rain);
        x.pass(days);
        Check.dueRust(x, 0, covered, covered, covered, covered, bare);
    }

    private static void rustOfADay() {
        Check.test("day, rust: without rain", () -> dueRustByRain(0, 1, 1, 0));
        Check.test("day, rust: by a rain of 1, its half is 0", () -> dueRustByRain(1, 1, 2, 0));
        Check.test("day, rust: by a rain of 2", () -> dueRustByRain(2, 1, 3, 1));
        Check.test("day, rust: by a rain of 3, its half is 1", () -> dueRustByRain(3, 1, 4, 1));
        Check.test("day, rust: just 9 without rain", () -> dueRustByRain(0, 9, 9, 0));
        Check.test("day, rust: at most 9 without rain", () -> dueRustByRain(0, 10, 9, 0));
        Check.test("day, rust: at most 9, from 8 by 2", () -> dueRustByRain(1, 5, 9, 0));
        Check.test("day, rust: just 9 by a rain of 2", () -> dueRustByRain(2, 3, 9, 3));
        Check.test("day, rust: at most 9, from 8 by 4", () -> dueRustByRain(3, 3, 9, 3));
        Check.test("day, rust: covered ones, 9 at last", () -> dueRustByRain(3, 9, 9, 9));
        Check.test("day, rust: covered ones, at most 9", () -> dueRustByRain(2, 60, 9, 9));
        Check.test("day, rust: covered ones never without rain", () -> dueRustByRain(0, 60, 9, 0));
        Check.test("day, rust: at most 9 as a covered one gets bare", () -> {
            CannonStacks x = Bastions.onePile(2, 5);
            x.setRain(2);
            x.pass(8);
            x.fire(0, 1);
            x.pass(1);
            Check.dueRust(x, 0, 9, 9, 9, 9);
        });
        Check.test("day, rust: before the cats, so covered by the one that rolls off then", () -> {
            CannonStacks x = Bastions.onePile(3, 10);
            x.cat(1);
            Check.due("pass(1)", x.pass(1), 1);
            Check.dueRust(x, 0, 0, 0, 1, 0, 0, 1, 1, 1, 1);
            Check.due("pass(1)", x.pass(1), 0);
            Check.dueRust(x, 0, 1, 1, 2, 1, 1, 2, 2, 2, 2);
        });
        Check.test("day, rust: each pile has it", () -> {
            CannonStacks x = new CannonStacks();
            for (int pile = 0; pile < 6; pile++) {
                int calibre = Math.min(pile, 4);
                x.give(calibre, 5);
                x.pile(calibre, 2);
                x.stack(pile, pile == 0 ? 5 : 1);
            }
            x.pass(4);
            Check.dueRust(x, 0, 0, 0, 0, 0, 4);
            for (int pile = 1; pile < 6; pile++) {
                Check.dueRust(x, pile, 4);
            }
        });
        Check.test("day: it is 1 greater, without piles, balls and cats too", () -> {
            CannonStacks x = new CannonStacks();
            x.pass(1);
            Check.due("count(0)", x.count(0), 1);
            CannonStacks y = Bastions.some();
            int before = y.count(0);
            y.pass(1);
            Check.due("count(0)", y.count(0), before + 1);
        });
    }

    /** A cat with this leap among so many piles, without balls: where it is day by day. */
    private static void dueStops(int leap, int piles, int... stops) {
        CannonStacks x = new CannonStacks();
        for (int i = 0; i < piles; i++) {
            x.pile(0, 2);
        }
        x.cat(leap);
        for (int day = 0; day < stops.length; day++) {
            Check.due("pass(1)", x.pass(1), 0);
            Check.due("pile on the day " + day, x.mouser(0, 1), stops[day]);
        }
    }

    private static void catsOfADay() {
        Check.test("day, cats: without piles they stay on the ground", () -> dueStops(5, 0, -1, -1, -1));
        Check.test("day, cats: from the ground to the pile 0, of one", () -> dueStops(5, 1, 0));
        Check.test("day, cats: from the ground to the pile 0, of six", () -> dueStops(5, 6, 0));
        Check.test("day, cats: with one pile they stay on it", () -> dueStops(3, 1, 0, 0, 0));
        Check.test("day, cats: as great a leap as there are piles", () -> dueStops(3, 3, 0, 0, 0));
        Check.test("day, cats: a greater leap than there are piles", () -> dueStops(5, 2, 0, 1, 0, 1));
        Check.test("day, cats: a leap more than twice around", () -> dueStops(5, 3, 0, 2, 1, 0));
        Check.test("day, cats: around by a leap of 1", () -> dueStops(1, 6, 0, 1, 2, 3, 4, 5, 0));
        Check.test("day, cats: around by a leap of 5", () -> dueStops(5, 6, 0, 5, 4, 3, 2, 1, 0));
        Check.test("day, cats: around, not to 0", () -> dueStops(4, 6, 0, 4, 2, 0));
        Check.test("day, cats: a new pile counts for the remainder", () -> {
            CannonStacks x = new CannonStacks();
            x.pile(0, 1);
            x.pile(0, 1);
            x.cat(1);
            x.pass(2);
            Check.due("mouser(0, 1)", x.mouser(0, 1), 1);
            x.pile(0, 1);
            x.pass(1);
            Check.due("mouser(0, 1)", x.mouser(0, 1), 2);
        });
        Check.test("day, cats: the first pile comes after the cats", () -> {
            CannonStacks x = new CannonStacks();
            x.cat(2);
            x.pass(3);
            x.pile(0, 1);
            x.pile(0, 1);
            x.pile(0, 1);
            x.pass(1);
            Check.due("mouser(0, 1)", x.mouser(0, 1), 0);
            x.pass(1);
            Check.due("mouser(0, 1)", x.mouser(0, 1), 2);
        });
        Check.test("day, cats: three at once, each by its own leap", () -> {
            CannonStacks x = new CannonStacks();
            for (int i = 0; i < 6; i++) {
                x.pile(0, 1);
            }
            x.cat(1);
            x.cat(3);
            x.cat(5);
            x.pass(3);
            Check.due("mouser(0, 1)", x.mouser(0, 1), 2);
            Check.due("mouser(1, 1)", x.mouser(1, 1), 0);
            Check.due("mouser(2, 1)", x.mouser(2, 1), 4);
        });
        Check.test("day, cats: a chased one comes to the pile 0, the others go on", () -> {
            CannonStacks x = new CannonStacks();
            for (int i = 0; i < 4; i++) {
                x.pile(0, 1);
            }
            x.cat(1);
            x.cat(1);
            x.pass(3);
            x.chase(0);
            x.pass(1);
            Check.due("mouser(0, 1)", x.mouser(0, 1), 0);
            Check.due("mouser(1, 1)", x.mouser(1, 1), 3);
        });
    }

    /** What rolls off on the first day by one cat, that comes from the ground. */
    private static void dueRolled(int side, int balls, int rolled) {
        CannonStacks x = Bastions.onePile(side, balls);
        x.cat(1);
        Check.due("pass(1) with " + balls, x.pass(1), rolled);
        Check.due("balls then", x.about(0, 2), balls - rolled);
        Check.due("loose ones", x.told(0, 1), rolled);
        Check.due("off by the cat", x.mouser(0, 2), rolled);
    }

    private static void rollingOff() {
        Check.test("day, cats: without cats none rolls off", () -> {
            CannonStacks x = Bastions.onePile(3, 8);
            Check.due("pass(60)", x.pass(60), 0);
            Check.due("about(0, 2)", x.about(0, 2), 8);
        });
        Check.test("day, cats: a pile without balls loses none", () -> dueRolled(3, 0, 0));
        Check.test("day, cats: the only ball of a begun layer", () -> dueRolled(3, 1, 1));
        Check.test("day, cats: a layer that has one ball too few", () -> dueRolled(3, 8, 1));
        Check.test("day, cats: a layer that is just full", () -> dueRolled(3, 9, 0));
        Check.test("day, cats: the first ball on a full layer", () -> dueRolled(3, 10, 1));
        Check.test("day, cats: the last but one of the second layer", () -> dueRolled(3, 12, 1));
        Check.test("day, cats: the second layer is just full", () -> dueRolled(3, 13, 0));
        Check.test("day, cats: a full pile loses none", () -> dueRolled(3, 14, 0));
        Check.test("day, cats: a full pile with a side of 1 loses none", () -> dueRolled(1, 1, 0));
        Check.test("day, cats: a pile without balls, a side of 1", () -> dueRolled(1, 0, 0));
        for (int full : new int[] {36, 61, 77, 86, 90, 91}) {
            Check.test("day, cats: full layers of a side of 6, " + full, () -> dueRolled(6, full, 0));
            Check.test("day, cats: one ball too few, " + full, () -> dueRolled(6, full - 1, full == 91 ? 0 : 1));
        }
        Check.test("day, cats: one behind the other, the first takes the last one that rolls", () -> {
            CannonStacks x = Bastions.onePile(3, 10);
            x.cat(1);
            x.cat(1);
            x.cat(1);
            Check.due("pass(1)", x.pass(1), 1);
            Check.due("mouser(0, 2)", x.mouser(0, 2), 1);
            Check.due("mouser(1, 2)", x.mouser(1, 2), 0);
            Check.due("mouser(2, 2)", x.mouser(2, 2), 0);
        });
        Check.test("day, cats: one behind the other, two of three find one", () -> {
            CannonStacks x = Bastions.onePile(3, 2);
            x.cat(1);
            x.cat(1);
            x.cat(1);
            Check.due("pass(1)", x.pass(1), 2);
            Check.due("mouser(1, 2)", x.mouser(1, 2), 1);
            Check.due("mouser(2, 2)", x.mouser(2, 2), 0);
            Check.due("about(0, 2)", x.about(0, 2), 0);
        });
        Check.test("day, cats: only the pile on which one comes loses a ball", () -> {
            CannonStacks x = Bastions.onePile(3, 5);
            x.pile(0, 3);
            x.stack(1, 5);
            x.cat(1);
            x.pass(1);
            Check.due("about(0, 2)", x.about(0, 2), 4);
            Check.due("about(1, 2)", x.about(1, 2), 5);
            x.pass(1);
            Check.due("about(0, 2)", x.about(0, 2), 4);
            Check.due("about(1, 2)", x.about(1, 2), 4);
        });
        Check.test("day, cats: the top ball rolls off, with its rust", () -> {
            CannonStacks x = Bastions.withRust(3, 5, 3, 1);
            x.cat(1);
            x.pass(1);
            Check.dueRust(x, 0, 6, 4);
        });
    }

    private static void looseBalls() {
        Check.test("loose balls: by their calibres", () -> {
            CannonStacks x = new CannonStacks();
            x.cat(1);
            for (int calibre = 0; calibre <= 4; calibre++) {
                x.give(calibre, 5);
                x.pile(calibre, 3);
                x.stack(calibre, 5);
            }
            x.pass(7);
            int[] loose = {2, 2, 1, 1, 1};
            for (int calibre = 0; calibre <= 4; calibre++) {
                Check.due("told(" + calibre + ", 1)", x.told(calibre, 1), loose[calibre]);
                Check.due("told(" + calibre + ", 2)", x.told(calibre, 2), 5 - loose[calibre]);
            }
        });
        Check.test("loose balls: their rust is gone", () -> {
            CannonStacks x = Bastions.withRust(3, 9);
            x.cat(1);
            x.pass(1);
            Check.due("count(6)", x.count(6), 0);
            Check.dueMean("mean()", x.mean(), 0.0);
            x.gather();
            x.stack(0, 1);
            Check.dueRust(x, 0, 0);
        });
        Check.test("loose balls: they have no rust on the ground, however long they lie there", () -> {
            CannonStacks x = Bastions.onePile(3, 1);
            x.cat(1);
            x.setRain(3);
            x.pass(60);
            Check.due("told(0, 1)", x.told(0, 1), 1);
            Check.due("count(6)", x.count(6), 0);
        });
    }

    private static void inspecting() {
        Check.test("inspecting: none rusty, nothing is changed", () -> {
            CannonStacks x = Bastions.withRust(3, 5, 4, 0);
            long before = x.digest();
            Check.due("inspect(0)", x.inspect(0), 0);
            Check.due("digest()", x.digest(), before);
        });
        Check.test("inspecting: all rusty, none is left", () -> {
            CannonStacks x = Bastions.withRust(3, 9, 7, 6);
            Check.due("inspect(0)", x.inspect(0), 3);
            Check.due("about(0, 2)", x.about(0, 2), 0);
            Check.due("told(0, 4)", x.told(0, 4), 3);
        });
        Check.test("inspecting: those at the bottom alone", () -> {
            CannonStacks x = Bastions.withRust(3, 9, 6, 5, 2, 0);
            Check.due("inspect(0)", x.inspect(0), 2);
            Check.dueRust(x, 0, 5, 2, 0);
        });
        Check.test("inspecting: those at the top alone", () -> {
            CannonStacks x = turned(9, 6, 5, 2, 0);
            Check.due("inspect(1)", x.inspect(1), 2);
            Check.dueRust(x, 1, 0, 2, 5);
        });
        Check.test("inspecting: one between the others", () -> {
            CannonStacks x = Bastions.withRust(3, 8, 4, 2);
            x.pile(0, 3);
            x.shift(0, 1);
            x.scour(1);
            Check.dueRust(x, 1, 0, 1, 5);
            x.stack(1, 1);
            x.setLimit(5);
            Check.due("inspect(1)", x.inspect(1), 1);
            Check.dueRust(x, 1, 0, 1, 0);
        });
        Check.test("inspecting: rusty ones between the others and at the top", () -> {
            // Bare balls rust, covered ones don't: 0, 1, 3 and 4 are covered by 9 as long as it lies there.
            CannonStacks x = Bastions.onePile(3, 10);
            x.pass(6);
            Check.dueRust(x, 0, 0, 0, 6, 0, 0, 6, 6, 6, 6, 6);
            Check.due("inspect(0)", x.inspect(0), 6);
            Check.dueRust(x, 0, 0, 0, 0, 0);
        });
        Check.test("inspecting: the others may be covered otherwise", () -> {
            CannonStacks x = Bastions.onePile(2, 5);
            x.pass(6);
            Check.due("covered before", x.ball(0, 0, 4), 1);
            Check.due("inspect(0)", x.inspect(0), 1);
            Check.due("bare then", x.ball(0, 0, 4), 0);
            CannonStacks y = Bastions.withRust(3, 6, 0, 0, 0);
            y.stack(0, 6);
            Check.due("about(0, 6)", y.about(0, 6), 6);
            Check.due("inspect(0)", y.inspect(0), 1);
            Check.due("about(0, 6)", y.about(0, 6), 9);
            y.stack(0, 1);
            Check.due("about(0, 6)", y.about(0, 6), 6);
        });
        Check.test("inspecting: by a limit of 1 and of 9", () -> {
            CannonStacks x = Bastions.withRust(3, 9, 9, 8, 1, 0);
            x.setLimit(9);
            Check.due("inspect(0)", x.inspect(0), 2);
            x.setLimit(1);
            Check.due("inspect(0)", x.inspect(0), 2);
            Check.dueRust(x, 0, 0);
        });
    }

    /** The same rusts as withRust has on the pile 0, but turned around on the pile 1. */
    private static CannonStacks turned(int... rust) {
        CannonStacks x = Bastions.withRust(3, rust);
        x.pile(0, 3);
        x.shift(0, 1);
        return x;
    }
}
