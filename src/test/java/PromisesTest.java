/** Each promise of the document on small drawings whose answers were worked out by hand. */
public final class PromisesTest extends Answers {
    private static void newObject() {
        by("promise 1");
        RouteLayout x = new RouteLayout();
        due("count(0)", x.count(0), 0);
        due("count(1)", x.count(1), 0);
        due("count(2)", x.count(2), 0);
        dueUntold(x);
        due("remove(0)", x.remove(0), false);
        due("drop(0)", x.drop(0), false);
        due("reversed(0)", x.reversed(0), -1);
        new RouteLayout().box(0, 1);
        due("count(0) beside another object", x.count(0), 0);
    }

    private static void box() {
        by("promise 2");
        RouteLayout x = new RouteLayout();
        x.box(0, 1);
        x.box(15, 50);
        due("count(0)", x.count(0), 2);
        x.pin(15, 3);
        due("draw(0)", x.draw(0), true);
        due("count(6)", x.count(6), 50);
        for (int id : new int[] {-1, 16, LOW, HIGH}) {
            refused("box(" + id + ", 1)", () -> x.box(id, 1));
        }
        for (int width : new int[] {0, 51, -1, LOW, HIGH}) {
            refused("box(0, " + width + ")", () -> x.box(0, width));
        }
        due("count(6) behind wrong boxes", x.count(6), 50);
        x.box(15, 20);
        due("count(0)", x.count(0), 2);
        dueUntold(x);
        x.draw(0);
        due("at(15, 0) with another width", x.at(15, 0), 3);
        due("count(6)", x.count(6), 20);
        x.box(15, 20);
        dueUntold(x);
    }

    private static void remove() {
        by("promise 3");
        RouteLayout x = boxes(3, 4);
        arrows(x, 0, 1, 1, 2, 2, 0, 0, 2);
        x.pin(1, 2);
        x.draw(0);
        for (int id : new int[] {-1, 16, LOW, HIGH}) {
            refused("remove(" + id + ")", () -> x.remove(id));
        }
        due("remove(3)", x.remove(3), false);
        due("count(3) behind remove() that answers false", x.count(3), 4);
        due("reversed(2)", x.reversed(2), 1);
        due("remove(1)", x.remove(1), true);
        dueUntold(x);
        due("remove(1) again", x.remove(1), false);
        due("count(0)", x.count(0), 2);
        due("count(1)", x.count(1), 2);
        due("reversed(0)", x.reversed(0), -1);
        due("reversed(1)", x.reversed(1), -1);
        due("reversed(2), kept now", x.reversed(2), 0);
        due("reversed(3)", x.reversed(3), 1);
        x.box(1, 4);
        x.draw(0);
        due("at(1, 0), not pinned any more", x.at(1, 0), 0);
        due("count(1)", x.count(1), 2);
    }

    private static void arrow() {
        by("promise 4");
        RouteLayout x = boxes(4, 4);
        x.arrow(0, 0, 1);
        x.arrow(23, 1, 2);
        due("count(1)", x.count(1), 2);
        x.draw(0);
        for (int a : new int[] {-1, 24, LOW, HIGH}) {
            refused("arrow(" + a + ", 0, 1)", () -> x.arrow(a, 0, 1));
        }
        for (int id : new int[] {-1, 4, 16, LOW, HIGH}) {
            refused("arrow(0, " + id + ", 1)", () -> x.arrow(0, id, 1));
            refused("arrow(0, 1, " + id + ")", () -> x.arrow(0, 1, id));
        }
        refused("arrow(0, 2, 2)", () -> x.arrow(0, 2, 2));
        due("at(2, 0) behind wrong arrows", x.at(2, 0), 2);
        x.arrow(23, 1, 3);
        dueUntold(x);
        due("count(1)", x.count(1), 2);
        x.draw(0);
        due("at(2, 0)", x.at(2, 0), 0);
        due("at(3, 0)", x.at(3, 0), 2);
    }

    private static void drop() {
        by("promise 5");
        RouteLayout x = boxes(2, 4);
        arrows(x, 0, 1, 1, 0);
        x.draw(0);
        for (int a : new int[] {-1, 24, LOW, HIGH}) {
            refused("drop(" + a + ")", () -> x.drop(a));
        }
        due("drop(2)", x.drop(2), false);
        due("count(3) behind drop() that answers false", x.count(3), 2);
        due("reversed(1)", x.reversed(1), 1);
        due("drop(0)", x.drop(0), true);
        dueUntold(x);
        due("drop(0) again", x.drop(0), false);
        due("count(1)", x.count(1), 1);
        due("reversed(1)", x.reversed(1), 0);
    }

    private static void pin() {
        by("promise 6");
        RouteLayout x = boxes(3, 4);
        arrows(x, 0, 1, 1, 2);
        x.pin(1, 8);
        x.draw(0);
        due("at(0, 0)", x.at(0, 0), 0);
        due("at(1, 0)", x.at(1, 0), 8);
        due("at(2, 0), behind the pinned one", x.at(2, 0), 9);
        for (int layer : new int[] {-2, 9, LOW, HIGH}) {
            refused("pin(1, " + layer + ")", () -> x.pin(1, layer));
        }
        for (int id : new int[] {-1, 3, 16, LOW, HIGH}) {
            refused("pin(" + id + ", 0)", () -> x.pin(id, 0));
            refused("pin(" + id + ", -1)", () -> x.pin(id, -1));
        }
        due("at(1, 0) behind wrong pins", x.at(1, 0), 8);
        x.pin(1, -1);
        dueUntold(x);
        x.draw(0);
        due("at(1, 0)", x.at(1, 0), 1);
        x.pin(1, -1);
        dueUntold(x);
        x.pin(0, 0);
        x.pin(1, 1);
        due("draw(0) with pins that fit closely", x.draw(0), true);
        x.pin(0, 1);
        due("draw(0) with both in one layer", x.draw(0), false);
    }

    /** The longest chain there is: a box in layer 8 and fifteen behind it. */
    private static void deepest() {
        by("promise 6, the deepest layers");
        RouteLayout x = boxes(16, 50);
        for (int a = 0; a < 15; a++) {
            x.arrow(14 - a, a, a + 1);
        }
        for (int a = 15; a < 24; a++) {
            x.arrow(a, 0, 15);
        }
        x.pin(0, 8);
        due("draw(4)", x.draw(4), true);
        due("count(3)", x.count(3), 24);
        due("count(4)", x.count(4), 16 + 9 * 14);
        due("at(15, 0)", x.at(15, 0), 23);
        due("item(0, 0) of an empty layer", x.item(0, 0), -1);
        due("between(0, 0)", x.between(0, 0), 0);
        due("between(7, 1)", x.between(7, 1), 0);
        due("between(22, 0)", x.between(22, 0), 0);
        due("between(23, 0)", x.between(23, 0), -1);
        due("piece(23, 22, 1)", x.piece(23, 22, 1), x.at(15, 2) + 25);
    }

    /** Layers, dummies and the order at last. */
    private static void draw() {
        by("promise 7");
        RouteLayout x = boxes(4, 4);
        for (int rounds : new int[] {-1, 5, LOW, HIGH}) {
            refused("draw(" + rounds + ")", () -> x.draw(rounds));
        }
        arrows(x, 0, 1, 1, 2, 0, 2, 3, 2);
        due("draw(4)", x.draw(4), true);
        refused("draw(5)", () -> x.draw(5));
        due("count(3) behind a wrong draw()", x.count(3), 3);
        dueRow(x, 0, 0, 3);
        dueRow(x, 1, 1, 102, 103);
        dueRow(x, 2, 2);
        x.pin(2, 1);
        due("draw(0), contradicted", x.draw(0), false);
        dueUntold(x);
        due("draw(0) again", x.draw(0), false);
    }

    private static void drawWide() {
        by("promise 7, exact up to six items");
        for (int n = 6; n <= 7; n++) {
            RouteLayout x = boxes(2 * n, 4);
            for (int k = 0; k < n; k++) {
                x.arrow(k, k, 2 * n - 1 - k);
            }
            x.draw(0);
            due("between(0, 0) of " + n + " without rounds", x.between(0, 0), n == 6 ? 0 : 21);
            due("item(1, 0) of " + n, x.item(1, 0), n == 6 ? 11 : 7);
            x.draw(1);
            due("between(0, 0) of " + n + " with a round", x.between(0, 0), 0);
            due("item(1, 0) of " + n, x.item(1, 0), 2 * n - 1);
        }
    }

    /** Boxes 0 and 1 above 2 .. 5: where crossings are the same, those that stood ahead come first. */
    private static void drawTies() {
        by("promise 7, the first one of several orders");
        RouteLayout x = boxes(6, 4);
        arrows(x, 1, 2, 0, 3, 1, 4, 0, 5);
        x.draw(0);
        dueRow(x, 1, 3, 5, 2, 4);
        RouteLayout y = boxes(4, 4);
        arrows(y, 0, 2, 1, 2, 0, 3, 1, 3);
        y.draw(4);
        dueRow(y, 1, 2, 3);
        due("between(0, 0), the same in each order", y.between(0, 0), 1);
    }

    /**
     * Box 7 in layer 1 has no upper neighbours and stays at place 0 in a step by these; the six
     * others (8 .. 13) are ordered by medians among themselves.
     */
    private static void drawSteps() {
        by("promise 7, steps");
        RouteLayout x = boxes(14, 4);
        arrows(x, 0, 13, 1, 12, 2, 11, 3, 10, 4, 9, 5, 8);
        x.pin(7, 1);
        x.draw(1);
        dueRow(x, 1, 7, 13, 12, 11, 10, 9, 8);
        // Of two neighbours the median is the left one, of three the one between. In the step on layer 0
        // box 6, with neighbours at places 0 and 6, comes behind box 0: crossings are 11 before and after,
        // and that isn't more.
        RouteLayout y = boxes(16, 4);
        arrows(y, 0, 8, 6, 8, 1, 9, 5, 10, 5, 10, 0, 10, 7, 11, 2, 12, 3, 13, 4, 14, 6, 15);
        y.draw(1);
        dueRow(y, 0, 0, 6, 1, 2, 3, 4, 5, 7);
        dueRow(y, 1, 8, 9, 12, 13, 14, 10, 15, 11);
        due("between(0, 0)", y.between(0, 0), 11);
    }

    /**
     * Box 6 has upper neighbours at places 0, 3 and 4, box 7 at 1, 2 and 5. By medians 7 would come ahead
     * of 6, with 5 crossings in place of 4: all stays, and layer 0 is ordered by 6 ahead of 7.
     */
    private static void drawRefusedStep() {
        by("promise 7, a step that makes more crossings");
        RouteLayout x = boxes(8, 4);
        arrows(x, 0, 6, 3, 6, 4, 6, 1, 7, 2, 7, 5, 7);
        x.draw(0);
        due("between(0, 0) without rounds", x.between(0, 0), 4);
        x.draw(1);
        dueRow(x, 0, 0, 3, 4, 1, 2, 5);
        dueRow(x, 1, 6, 7);
        due("between(0, 0) with a round", x.between(0, 0), 0);
    }

    /** Layer 1 is ordered ahead of layer 2: boxes 4 and 5 find 3 ahead of 2, and stay. */
    private static void drawFromAbove() {
        by("promise 7, at last from layer 1 on");
        RouteLayout x = boxes(6, 4);
        arrows(x, 0, 3, 1, 2, 3, 4, 2, 5);
        x.draw(0);
        dueRow(x, 1, 3, 2);
        dueRow(x, 2, 4, 5);
        due("count(5)", x.count(5), 0);
    }

    private static RouteLayout crossed() {
        RouteLayout x = boxes(4, 4);
        arrows(x, 0, 2, 1, 3);
        x.draw(0);
        arrows(x, 0, 3, 1, 2);
        return x;
    }

    private static void redraw() {
        by("promise 8");
        RouteLayout x = crossed();
        for (int wrongOne : new int[] {-1, LOW, HIGH}) {
            refused("redraw(" + wrongOne + ", 0)", () -> x.redraw(wrongOne, 0));
            refused("redraw(0, " + wrongOne + ")", () -> x.redraw(0, wrongOne));
        }
        refused("redraw(5, 0)", () -> x.redraw(5, 0));
        refused("redraw(0, 100001)", () -> x.redraw(0, 100001));
        due("redraw(4, 100000)", x.redraw(4, 100000), 0);
        due("redraw(0, 1)", x.redraw(0, 1), 0);
        due("count(5), kept", x.count(5), 1);
        due("redraw(0, 0)", x.redraw(0, 0), 2);
        due("count(5), drawn", x.count(5), 0);
        dueRow(x, 1, 3, 2);
        due("redraw(0, 0) again", x.redraw(0, 0), 0);
        dueRow(x, 1, 3, 2);
        refused("redraw(5, 0)", () -> x.redraw(5, 0));
        due("count(5) behind a wrong redraw()", x.count(5), 0);
    }

    private static void redrawWithoutOld() {
        by("promise 8, without OLD");
        due("redraw(0, 0) without boxes", new RouteLayout().redraw(0, 0), 0);
        RouteLayout x = boxes(4, 4);
        arrows(x, 0, 3, 1, 2);
        due("redraw(4, 1)", x.redraw(4, 1), 0);
        dueRow(x, 1, 2, 3);
        RouteLayout y = boxes(4, 4);
        arrows(y, 0, 3, 1, 2);
        due("redraw(4, 0)", y.redraw(4, 0), 0);
        dueRow(y, 1, 3, 2);
    }

    private static void redrawContradicted() {
        by("promise 8, OLD stays");
        RouteLayout x = crossed();
        x.draw(0);
        dueRow(x, 1, 3, 2);
        x.pin(0, 4);
        x.pin(3, 2);
        due("redraw(0, 0), contradicted", x.redraw(0, 0), -1);
        dueUntold(x);
        due("draw(0), contradicted", x.draw(0), false);
        x.pin(0, -1);
        x.pin(3, -1);
        arrows(x, 0, 2, 1, 3);
        due("redraw(0, 1)", x.redraw(0, 1), 0);
        dueRow(x, 1, 3, 2);
    }

    private static void redrawOthers() {
        by("promise 8, others behind those of OLD");
        RouteLayout x = new RouteLayout();
        for (int id : new int[] {1, 3, 5, 6}) {
            x.box(id, 4);
        }
        x.arrow(1, 1, 6);
        x.arrow(2, 3, 5);
        x.draw(0);
        dueRow(x, 1, 6, 5);
        // Boxes 0 and 4 are new, arrow 1 gets longer; box 5 goes on alone in its layer.
        x.box(0, 4);
        x.box(4, 4);
        x.arrow(0, 0, 4);
        x.pin(6, 2);
        due("redraw(0, 100000)", x.redraw(0, 100000), 2);
        dueRow(x, 0, 1, 3, 0);
        dueRow(x, 1, 5, 4, 101);
        dueRow(x, 2, 6);
        // Dummy 101 is the same, whatever boxes its arrow joins; box 5 is the same, though it was away.
        x.arrow(1, 0, 6);
        x.arrow(0, 1, 4);
        x.remove(5);
        x.box(5, 9);
        x.arrow(2, 3, 5);
        x.box(2, 4);
        x.arrow(3, 3, 2);
        due("redraw(0, 100000)", x.redraw(0, 100000), 0);
        dueRow(x, 1, 5, 4, 101, 2);
        x.remove(5);
        due("redraw(0, 100000) without box 5", x.redraw(0, 100000), 2);
        dueRow(x, 1, 4, 101, 2);
    }

    private static void at() {
        by("promise 9");
        RouteLayout x = boxes(2, 10);
        x.box(1, 50);
        x.arrow(0, 0, 1);
        for (int id : new int[] {-1, 16, LOW, HIGH}) {
            refused("at(" + id + ", 0)", () -> x.at(id, 0));
        }
        for (int what : new int[] {-1, 3, LOW, HIGH}) {
            refused("at(0, " + what + ") untold", () -> x.at(0, what));
            refused("at(9, " + what + ") of no box", () -> x.at(9, what));
        }
        x.draw(0);
        due("at(0, 0)", x.at(0, 0), 0);
        due("at(1, 0)", x.at(1, 0), 1);
        due("at(1, 1)", x.at(1, 1), 0);
        due("at(0, 2)", x.at(0, 2), 20);
        due("at(1, 2)", x.at(1, 2), 0);
        due("at(2, 0)", x.at(2, 0), -1);
        due("at(2, 2)", x.at(2, 2), -1);
        due("piece(0, 0, 2), straight", x.piece(0, 0, 2), -1);
        due("between(0, 1)", x.between(0, 1), 0);
    }

    /**
     * Boxes 0 (5 wide, x 0, middle 2) and 1 (2 wide, x 9, middle 10), and box 2 (30 wide) below both.
     * Pass 1: box 2 wants (2 + 10) / 2 - 15 = -9, middle 6. Pass 2: box 0 wants 6 - 2 = 4, box 1 wants
     * 6 - 1 = 5 and gets 4 + 5 + 4 = 13, middle 14. Pass 3: box 2 wants (6 + 14) / 2 - 15 = -5,
     * middle 10. Pass 4: box 0 wants 8, box 1 gets 17. All get less by -5.
     */
    private static void passes() {
        by("promise 9, passes");
        RouteLayout x = new RouteLayout();
        x.box(0, 5);
        x.box(1, 2);
        x.box(2, 30);
        arrows(x, 0, 2, 1, 2);
        x.draw(0);
        due("at(0, 2)", x.at(0, 2), 13);
        due("at(1, 2)", x.at(1, 2), 22);
        due("at(2, 2)", x.at(2, 2), 0);
        due("count(6)", x.count(6), 30);
        due("piece(0, 0, 0)", x.piece(0, 0, 0), 15);
        due("piece(1, 0, 0)", x.piece(1, 0, 0), 23);
        due("piece(1, 0, 1)", x.piece(1, 0, 1), 15);
        due("piece(0, 0, 2)", x.piece(0, 0, 2), -1);
        due("piece(1, 0, 2)", x.piece(1, 0, 2), 0);
    }

    /**
     * Boxes 0, that has no arrows, and 1 above boxes 2 and 3, all 1 wide. Pass 1: 2 and 3 get 5 and 10.
     * Pass 2: box 1 gets 15 / 2 = 7. Pass 3: 7 and 12. Pass 4: box 1 gets 9. Box 0 stays at 0.
     */
    private static void fourPasses() {
        by("promise 9, four passes");
        RouteLayout x = boxes(4, 1);
        arrows(x, 1, 2, 1, 3);
        x.draw(0);
        due("at(0, 2)", x.at(0, 2), 0);
        due("at(1, 2)", x.at(1, 2), 9);
        due("at(2, 2)", x.at(2, 2), 7);
        due("at(3, 2)", x.at(3, 2), 12);
        // Box 1 (20 wide) goes 10 to the left, below box 0; box 2, without neighbours, stays at 24.
        RouteLayout y = boxes(3, 1);
        y.box(1, 20);
        y.pin(2, 1);
        y.arrow(0, 0, 1);
        y.draw(0);
        due("at(0, 2)", y.at(0, 2), 10);
        due("at(1, 2)", y.at(1, 2), 0);
        due("at(2, 2)", y.at(2, 2), 34);
    }

    private static void reversed() {
        by("promise 10");
        RouteLayout x = boxes(4, 4);
        arrows(x, 0, 1, 1, 0, 1, 2, 2, 0, 2, 3, 3, 0, 0, 3);
        for (int a : new int[] {-1, 24, LOW, HIGH}) {
            refused("reversed(" + a + ")", () -> x.reversed(a));
        }
        int[] due = {0, 1, 0, 1, 0, 1, 0, -1};
        for (int a = 0; a < due.length; a++) {
            due("reversed(" + a + ")", x.reversed(a), due[a]);
        }
        due("count(2)", x.count(2), 3);
        x.draw(0);
        due("reversed(5)", x.reversed(5), 1);
        due("at(3, 0)", x.at(3, 0), 3);
        // Arrows are taken by their numbers, not as they came: arrow 4 makes arrow 5 the reversed one, and
        // arrow 7, that closed a cycle with it, is kept then.
        RouteLayout z = boxes(4, 4);
        arrows(z, 1, 2, 2, 3, 0, 1, 3, 0);
        due("reversed(3), by a chain that was joined from behind", z.reversed(3), 1);
        RouteLayout y = boxes(3, 4);
        y.arrow(5, 0, 1);
        y.arrow(7, 1, 0);
        y.arrow(3, 1, 2);
        due("reversed(3)", y.reversed(3), 0);
        due("reversed(7)", y.reversed(7), 1);
        y.arrow(4, 2, 0);
        due("reversed(5), as arrow 4 is ahead of it", y.reversed(5), 1);
        due("reversed(7)", y.reversed(7), 0);
    }

    private static void item() {
        by("promise 11");
        RouteLayout x = boxes(4, 4);
        arrows(x, 0, 1, 1, 2);
        x.arrow(23, 0, 2);
        x.arrow(22, 2, 0);
        due("item(0, 0) untold", x.item(0, 0), -1);
        x.draw(0);
        dueRow(x, 0, 0, 3);
        dueRow(x, 1, 1, 122, 123);
        dueRow(x, 2, 2);
        for (int odd : new int[] {-1, 3, 24, 40, LOW, HIGH}) {
            due("item(" + odd + ", 0)", x.item(odd, 0), -1);
            due("item(1, " + odd + ")", x.item(1, odd), -1);
        }
    }

    /** Arrow 2 and the reversed arrow 3 pass by box 3 on their way from box 0 to box 4. */
    private static void piece() {
        by("promise 12");
        RouteLayout x = boxes(5, 4);
        arrows(x, 0, 3, 3, 4, 0, 4, 4, 0);
        for (int a : new int[] {-1, 24, LOW, HIGH}) {
            refused("piece(" + a + ", 0, 0)", () -> x.piece(a, 0, 0));
        }
        for (int what : new int[] {-1, 3, LOW, HIGH}) {
            refused("piece(0, 0, " + what + ") untold", () -> x.piece(0, 0, what));
            refused("piece(9, 0, " + what + ") of no arrow", () -> x.piece(9, 0, what));
        }
        x.draw(0);
        dueRow(x, 1, 3, 102, 103);
        int above = x.at(0, 2) + 2;
        int below = x.at(4, 2) + 2;
        due("piece(3, 0, 0), reversed", x.piece(3, 0, 0), above);
        due("piece(3, 1, 1), reversed", x.piece(3, 1, 1), below);
        due("piece(3, 1, 0)", x.piece(3, 1, 0), x.piece(3, 0, 1));
        due("piece(2, 0, 1) and 5", x.piece(2, 0, 1) + 5, x.piece(3, 0, 1));
        due("piece(0, 1, 0), from where it ends", x.piece(0, 1, 0), -1);
        due("piece(1, 0, 0), ahead of where it begins", x.piece(1, 0, 0), -1);
        due("piece(3, 2, 0)", x.piece(3, 2, 0), -1);
        due("piece(9, 0, 0)", x.piece(9, 0, 0), -1);
        for (int odd : new int[] {-1, 24, LOW, HIGH}) {
            due("piece(0, " + odd + ", 0)", x.piece(0, odd, 0), -1);
            due("piece(0, " + odd + ", 2)", x.piece(0, odd, 2), -1);
        }
    }

    private static void between() {
        by("promise 13");
        RouteLayout x = boxes(8, 4);
        arrows(x, 0, 4, 0, 5, 1, 4, 1, 5, 2, 6, 3, 7);
        for (int what : new int[] {-1, 2, LOW, HIGH}) {
            refused("between(0, " + what + ") untold", () -> x.between(0, what));
        }
        x.draw(4);
        for (int what : new int[] {-1, 2, LOW, HIGH}) {
            refused("between(0, " + what + ")", () -> x.between(0, what));
            refused("between(9, " + what + ")", () -> x.between(9, what));
        }
        due("between(0, 0)", x.between(0, 0), 1);
        for (int layer : new int[] {-1, 1, 2, 24, LOW, HIGH}) {
            due("between(" + layer + ", 0)", x.between(layer, 0), -1);
            due("between(" + layer + ", 1)", x.between(layer, 1), -1);
        }
    }

    /**
     * Box 0 (9 wide) above boxes 1, 2, 3 (1 wide). Pass 1: middle 4; box 1 gets 4, 2 gets 9, 3 gets 14.
     * Pass 2: box 0 wants 27 / 3 - 4 = 5, middle 9. Pass 3: 9, 14, 19. Pass 4: box 0 wants 42 / 3 - 4 = 10,
     * middle 14. All get less by 9: middles 0, 5 and 10 below 5. The parts are 0 to 5, and 5 to 10: they
     * touch and need two tracks.
     */
    private static void touching() {
        by("promise 13, tracks that touch");
        RouteLayout x = boxes(4, 1);
        x.box(0, 9);
        arrows(x, 0, 3, 0, 2, 0, 1);
        x.draw(0);
        due("at(0, 2)", x.at(0, 2), 1);
        dueRow(x, 1, 1, 2, 3);
        due("piece(0, 0, 2), taken later", x.piece(0, 0, 2), 1);
        due("piece(1, 0, 2), straight", x.piece(1, 0, 2), -1);
        due("piece(2, 0, 2), taken first", x.piece(2, 0, 2), 0);
        due("between(0, 1)", x.between(0, 1), 2);
    }

    /**
     * Box 0 above boxes 1 and 2, all 1 wide, with two arrows to box 2. Pass 1: boxes 1 and 2 get 0 and 5.
     * Pass 2: box 0 wants (0 + 5 + 5) / 3 = 3. Pass 3: 3 and 8. Pass 4: (3 + 8 + 8) / 3 = 6. All get less
     * by 3: middles 0 and 5 below 3.
     */
    private static void sameLeftEnds() {
        by("promise 12, parts with the same left end");
        RouteLayout x = boxes(3, 1);
        arrows(x, 0, 2, 0, 1, 0, 2);
        x.draw(0);
        due("at(0, 2)", x.at(0, 2), 3);
        due("at(1, 2)", x.at(1, 2), 0);
        due("at(2, 2)", x.at(2, 2), 5);
        due("piece(1, 0, 2)", x.piece(1, 0, 2), 0);
        due("piece(0, 0, 2)", x.piece(0, 0, 2), 1);
        due("piece(2, 0, 2)", x.piece(2, 0, 2), 2);
        due("between(0, 1)", x.between(0, 1), 3);
        due("count(7)", x.count(7), 3);
    }

    private static void count() {
        by("promise 14");
        RouteLayout x = new RouteLayout();
        x.draw(4);
        for (int what = 0; what <= 7; what++) {
            due("count(" + what + ") without boxes", x.count(what), 0);
        }
        x.box(0, 3);
        x.box(1, 4);
        x.box(2, 5);
        arrows(x, 0, 1, 1, 2, 2, 0);
        int[] untold = {3, 3, 1, -1, -1, -1, -1, -1};
        for (int what = 0; what <= 7; what++) {
            due("count(" + what + ") untold", x.count(what), untold[what]);
        }
        x.draw(0);
        due("count(3)", x.count(3), 3);
        due("count(4)", x.count(4), 4);
        due("count(5)", x.count(5), 0);
        for (int what : new int[] {-1, 8, LOW, HIGH}) {
            due("count(" + what + ")", x.count(what), -1);
        }
        RouteLayout y = boxes(6, 7);
        y.draw(0);
        due("count(3) of one layer", y.count(3), 1);
        due("count(6) of six beside each other", y.count(6), 6 * 7 + 5 * 4);
        due("count(7) of one layer", y.count(7), 0);
    }

    public static void main(String[] args) {
        newObject();
        box();
        remove();
        arrow();
        drop();
        pin();
        deepest();
        draw();
        drawWide();
        drawTies();
        drawSteps();
        drawRefusedStep();
        drawFromAbove();
        redraw();
        redrawWithoutOld();
        redrawContradicted();
        redrawOthers();
        at();
        passes();
        fourPasses();
        reversed();
        item();
        piece();
        between();
        touching();
        sameLeftEnds();
        count();
        end();
    }
}
