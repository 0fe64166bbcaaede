/** Each sentence of 'What it is' and 'Terms' that names an edge, at that edge and beside it. */
public final class TermsEdgesTest extends Answers {
    private static void calls() {
        by("What it is: at most 512 calls");
        RouteLayout x = boxes(16, 2);
        for (int a = 0; a < 24; a++) {
            x.arrow(a, a % 15, a % 15 + 1);
        }
        for (int call = 40; call < 508; call++) {
            due("draw(4), call " + (call + 1), x.draw(4), true);
        }
        due("at(15, 0), call 509", x.at(15, 0), 15);
        due("redraw(4, 0), call 510", x.redraw(4, 0), 0);
        due("remove(15), call 511", x.remove(15), true);
        due("count(0), call 512", x.count(0), 15);
    }

    private static void boxNumbers() {
        by("Terms: BOXES are 0 .. 15");
        RouteLayout x = new RouteLayout();
        for (int id = 0; id <= 15; id++) {
            int there = id;
            taken("box(" + id + ", 1)", () -> x.box(there, 1));
            due("count(0)", x.count(0), id + 1);
        }
        for (int id : new int[] {-1, 16, LOW, HIGH}) {
            refused("box(" + id + ", 1)", () -> x.box(id, 1));
            refused("remove(" + id + ")", () -> x.remove(id));
            refused("arrow(0, " + id + ", 1)", () -> x.arrow(0, id, 1));
            refused("arrow(0, 1, " + id + ")", () -> x.arrow(0, 1, id));
            refused("pin(" + id + ", 0)", () -> x.pin(id, 0));
            refused("at(" + id + ", 0)", () -> x.at(id, 0));
        }
        due("count(0)", x.count(0), 16);
        due("count(1)", x.count(1), 0);
    }

    private static void widths() {
        by("Terms: a WIDTH, 1 .. 50");
        RouteLayout x = new RouteLayout();
        for (int width = 1; width <= 50; width++) {
            x.box(0, width);
            x.draw(0);
            due("count(6) of " + width, x.count(6), width);
        }
        for (int width : new int[] {0, 51, -1, LOW, HIGH}) {
            refused("box(0, " + width + ")", () -> x.box(0, width));
            refused("box(1, " + width + ")", () -> x.box(1, width));
        }
        due("count(6)", x.count(6), 50);
        due("count(0)", x.count(0), 1);
    }

    private static void pins() {
        by("Terms: PINNED to a layer, 0 .. 8");
        RouteLayout x = boxes(1, 4);
        for (int layer = 0; layer <= 8; layer++) {
            x.pin(0, layer);
            due("draw(0)", x.draw(0), true);
            due("at(0, 0)", x.at(0, 0), layer);
        }
        for (int layer : new int[] {-2, 9, LOW, HIGH}) {
            refused("pin(0, " + layer + ")", () -> x.pin(0, layer));
        }
        due("at(0, 0)", x.at(0, 0), 8);
    }

    private static void arrowNumbers() {
        by("Terms: ARROWS are 0 .. 23");
        RouteLayout x = boxes(2, 4);
        for (int a = 0; a <= 23; a++) {
            int there = a;
            taken("arrow(" + a + ", 0, 1)", () -> x.arrow(there, 0, 1));
            due("count(1)", x.count(1), a + 1);
        }
        for (int a : new int[] {-1, 24, LOW, HIGH}) {
            refused("arrow(" + a + ", 0, 1)", () -> x.arrow(a, 0, 1));
            refused("drop(" + a + ")", () -> x.drop(a));
            refused("reversed(" + a + ")", () -> x.reversed(a));
            refused("piece(" + a + ", 0, 0)", () -> x.piece(a, 0, 0));
        }
        due("count(1)", x.count(1), 24);
    }

    private static void toAnother() {
        by("Terms: each from a box to another one");
        RouteLayout x = boxes(16, 4);
        for (int id = 0; id <= 15; id++) {
            int one = id;
            refused("arrow(0, " + id + ", " + id + ")", () -> x.arrow(0, one, one));
        }
        due("count(1)", x.count(1), 0);
    }

    private static void closesCycle() {
        by("Terms: one that would close a cycle .. is reversed, any other one is kept");
        RouteLayout two = boxes(2, 4);
        arrows(two, 0, 1, 1, 0, 0, 1, 1, 0);
        due("reversed(0), the first one", two.reversed(0), 0);
        due("reversed(1), a cycle of two", two.reversed(1), 1);
        due("reversed(2), beside a reversed one, that isn't kept", two.reversed(2), 0);
        due("reversed(3)", two.reversed(3), 1);
        RouteLayout all = boxes(16, 4);
        for (int a = 0; a < 15; a++) {
            all.arrow(a, a, a + 1);
        }
        all.arrow(15, 14, 0);
        all.arrow(16, 15, 0);
        all.arrow(17, 0, 15);
        due("reversed(15), a cycle of fifteen", all.reversed(15), 1);
        due("reversed(16), a cycle of all", all.reversed(16), 1);
        due("reversed(17), no cycle", all.reversed(17), 0);
        due("count(2)", all.count(2), 2);
        all.drop(7);
        due("count(2) of a broken chain", all.count(2), 1);
        due("reversed(16), kept, as the chain is broken", all.reversed(16), 0);
        due("reversed(17), a cycle with arrow 16", all.reversed(17), 1);
    }

    private static void takenByNumbers() {
        by("Terms: arrows are taken in the order of their numbers");
        RouteLayout x = boxes(2, 4);
        x.arrow(23, 0, 1);
        x.arrow(0, 1, 0);
        due("reversed(0), the least number", x.reversed(0), 0);
        due("reversed(23), the greatest one", x.reversed(23), 1);
        x.draw(0);
        due("at(1, 0)", x.at(1, 0), 0);
        due("at(0, 0)", x.at(0, 0), 1);
        x.drop(0);
        due("reversed(23) alone", x.reversed(23), 0);
    }

    private static void upperEnds() {
        by("Terms: UPPER END .. of a reversed one it is the other way round");
        RouteLayout x = boxes(3, 4);
        arrows(x, 0, 1, 1, 2, 2, 0);
        x.pin(0, 0);
        x.pin(2, 8);
        due("draw(0), box 2 behind box 0", x.draw(0), true);
        due("item(7, 0), the dummies of arrows 1 and 2", x.item(7, 0), 101);
        due("item(7, 1)", x.item(7, 1), 102);
        x.drop(0);
        due("reversed(2)", x.reversed(2), 0);
        due("draw(0), box 0 not behind box 2", x.draw(0), false);
    }

    private static void layers() {
        by("Terms: in the layer behind the last one .. without any, in layer 0");
        RouteLayout x = boxes(16, 4);
        x.draw(0);
        for (int id = 0; id <= 15; id++) {
            due("at(" + id + ", 0) without arrows", x.at(id, 0), 0);
        }
        for (int a = 0; a < 15; a++) {
            x.arrow(a, 15 - a, 14 - a);
        }
        x.arrow(15, 15, 0);
        x.draw(0);
        for (int id = 0; id <= 15; id++) {
            due("at(" + id + ", 0) in a chain", x.at(id, 0), 15 - id);
        }
        due("count(3)", x.count(3), 16);
        x.pin(15, 8);
        due("draw(0)", x.draw(0), true);
        due("at(0, 0), behind all, and the first one in layer 8", x.at(0, 0), 23);
        due("count(3)", x.count(3), 24);
        x.drop(15);
        x.drop(7);
        x.draw(0);
        due("at(7, 0), not behind any more", x.at(7, 0), 0);
        due("at(8, 0)", x.at(8, 0), 15);
    }

    private static void contradicted() {
        by("Terms: if it isn't behind all those, the pins CONTRADICT the arrows");
        RouteLayout x = boxes(3, 4);
        arrows(x, 0, 2, 1, 2);
        x.pin(1, 4);
        int[] layers = {0, 1, 3, 4, 5, 8};
        boolean[] fits = {false, false, false, false, true, true};
        for (int k = 0; k < layers.length; k++) {
            x.pin(2, layers[k]);
            due("draw(0) with box 2 in layer " + layers[k], x.draw(0), fits[k]);
        }
        x.pin(2, -1);
        due("draw(0) with box 2 not pinned", x.draw(0), true);
        due("at(2, 0)", x.at(2, 0), 5);
        // The boxes above are not pinned here; their layers count all the same.
        RouteLayout y = boxes(3, 4);
        arrows(y, 0, 1, 1, 2);
        y.pin(2, 1);
        due("draw(0), box 1 between lies in layer 1", y.draw(0), false);
        y.pin(2, 2);
        due("draw(0), close behind", y.draw(0), true);
        y.pin(1, 0);
        due("draw(0), box 1 beside box 0", y.draw(0), false);
        y.drop(0);
        due("draw(0), box 1 in layer 0 without an arrow to it", y.draw(0), true);
    }

    private static void pinsAllClose() {
        by("Terms: a pinned one lies in its layer");
        RouteLayout x = boxes(10, 4);
        for (int id = 0; id < 9; id++) {
            x.pin(id, id);
            x.arrow(id, id, id + 1);
        }
        due("draw(0), each pinned close behind the one above", x.draw(0), true);
        due("at(8, 0)", x.at(8, 0), 8);
        due("at(9, 0), behind the last layer of a pin", x.at(9, 0), 9);
        x.pin(9, 8);
        due("draw(0), the tenth in layer 8", x.draw(0), false);
        RouteLayout y = boxes(2, 4);
        y.arrow(0, 0, 1);
        y.arrow(1, 1, 0);
        y.pin(0, 8);
        due("draw(0), a cycle and a pin", y.draw(0), true);
        y.pin(1, 7);
        due("draw(0), against the kept arrow", y.draw(0), false);
    }

    private static void dummies() {
        by("Terms: an arrow .. to one that isn't the next has a DUMMY, of width 1, in each layer between");
        RouteLayout x = boxes(2, 4);
        x.arrow(0, 0, 1);
        x.arrow(23, 0, 1);
        for (int layer = 1; layer <= 8; layer++) {
            x.pin(1, layer);
            x.draw(0);
            due("count(4) with box 1 in layer " + layer, x.count(4), 2 + 2 * (layer - 1));
            due("item(" + layer + ", 0)", x.item(layer, 0), 1);
            due("item(" + layer + ", 1)", x.item(layer, 1), -1);
        }
        for (int layer = 1; layer < 8; layer++) {
            dueRow(x, layer, 100, 123);
            due("piece(23, " + layer + ", 0), 1 and 4 behind", x.piece(23, layer, 0), x.piece(0, layer, 0) + 5);
        }
    }

    private static void firstOrder() {
        by("Terms: in the FIRST one a layer has its boxes by numbers, then its dummies");
        RouteLayout x = boxes(16, 4);
        x.arrow(23, 15, 0);
        x.arrow(0, 14, 0);
        x.arrow(1, 15, 1);
        x.arrow(2, 14, 2);
        x.pin(0, 2);
        x.redraw(0, 100000);
        dueRow(x, 0, 3, 4, 5, 6, 7, 8, 9, 10, 11, 12, 13, 14, 15);
        dueRow(x, 1, 1, 2, 100, 123);
        dueRow(x, 2, 0);
    }

    /** A first redrawing with the greatest tolerance keeps the first orders. */
    private static void crossings() {
        by("Terms: CROSSINGS .. whose upper ends are two items, and the lower ends, too, in the other order");
        RouteLayout x = boxes(4, 4);
        arrows(x, 0, 3, 0, 3, 1, 2, 1, 2, 1, 2);
        x.redraw(0, 100000);
        due("between(0, 0) of two and three pieces", x.between(0, 0), 6);
        RouteLayout upper = boxes(4, 4);
        arrows(upper, 0, 3, 0, 2, 0, 1);
        upper.redraw(0, 100000);
        due("between(0, 0) with the same upper end", upper.between(0, 0), 0);
        RouteLayout lower = boxes(4, 4);
        arrows(lower, 2, 3, 1, 3, 0, 3);
        lower.redraw(0, 100000);
        due("between(0, 0) with the same lower end", lower.between(0, 0), 0);
        RouteLayout same = boxes(4, 4);
        arrows(same, 0, 2, 1, 3);
        same.redraw(0, 100000);
        due("between(0, 0) in the same order", same.between(0, 0), 0);
        RouteLayout twice = boxes(2, 4);
        arrows(twice, 0, 1, 1, 0);
        twice.redraw(0, 100000);
        due("between(0, 0) of pieces with both ends the same", twice.between(0, 0), 0);
    }

    /**
     * Box 8 has upper neighbours at places 0, 2, 5 and 6: its median is 2, and it comes ahead of box 9,
     * with 3. Boxes 10 .. 14 have one each, at 0, 1, 4, 6 and 7. Crossings are 12 before the step, and 5
     * behind it. In the step on layer 0 boxes 5 and 6 have the median 2, as box 2 has: 3 crossings.
     */
    private static void medians() {
        by("Terms: the place of its neighbour that has number (n - 1) / 2 (down)");
        RouteLayout x = boxes(15, 4);
        arrows(x, 0, 8, 2, 8, 5, 8, 6, 8, 3, 9, 0, 10, 1, 11, 4, 12, 6, 13, 7, 14);
        x.redraw(0, 100000);
        due("between(0, 0) of the first orders", x.between(0, 0), 12);
        x.draw(1);
        dueRow(x, 0, 0, 1, 2, 5, 6, 3, 4, 7);
        dueRow(x, 1, 10, 11, 8, 9, 12, 13, 14);
        due("between(0, 0)", x.between(0, 0), 3);
    }

    /**
     * Box 8 has a piece from box 0 and two from box 6: its neighbours' places are 0, 6 and 6, and the
     * median is 6. Without the second one it would be 0, and box 8 would stay ahead.
     */
    private static void neighboursTwice() {
        by("Terms: NEIGHBOURS of each other, as often as there are pieces between them");
        for (int twice = 0; twice <= 1; twice++) {
            RouteLayout x = boxes(15, 4);
            arrows(x, 0, 8, 6, 8, 1, 9, 2, 10, 3, 11, 4, 12, 5, 13, 7, 14);
            if (twice == 1) {
                x.arrow(23, 6, 8);
            }
            x.draw(1);
            due("at(8, 1) with " + (twice + 1) + " from box 6", x.at(8, 1), twice == 0 ? 0 : 5);
        }
    }

    /**
     * Boxes 0 and 1 above 2 .. 8 above 9 and 10. By medians box 3 would come ahead of box 2: no crossing
     * above in place of 1, and below as many as there are arrows from box 2 to box 9, in place of none.
     */
    private static void aboveAndBelow() {
        by("Terms: if the crossings with the layer above and that below would be more together than before");
        for (int pieces = 1; pieces <= 2; pieces++) {
            RouteLayout x = boxes(11, 4);
            for (int id = 4; id <= 8; id++) {
                x.pin(id, 1);
            }
            arrows(x, 1, 2, 0, 3, 2, 9, 3, 10);
            if (pieces == 2) {
                x.arrow(4, 2, 9);
            }
            x.draw(1);
            boolean stays = pieces == 2;
            due("item(0, 0) with " + pieces, x.item(0, 0), stays ? 1 : 0);
            due("item(1, 0) with " + pieces, x.item(1, 0), stays ? 2 : 3);
            due("item(1, 1) with " + pieces, x.item(1, 1), stays ? 3 : 2);
            due("item(2, 0) with " + pieces, x.item(2, 0), stays ? 9 : 10);
            due("count(5) with " + pieces, x.count(5), 0);
        }
    }

    /** In this net each round more gives another order of layer 1, which has nine items. */
    private static void rounds() {
        by("Terms: so many rounds");
        RouteLayout x = boxes(10, 4);
        arrows(x, 4, 9, 3, 7, 0, 5, 3, 6, 8, 9, 2, 5, 1, 2, 0, 9, 2, 6, 3, 5, 3, 4, 1, 8, 2, 4, 3, 5, 5, 9, 5, 8);
        x.draw(0);
        dueRow(x, 1, 2, 7, 102, 103, 107, 109, 110, 111, 113);
        dueRow(x, 2, 6, 4, 5, 107, 111);
        x.draw(1);
        dueRow(x, 1, 107, 110, 102, 2, 7, 109, 113, 103, 111);
        dueRow(x, 2, 107, 4, 5, 6, 111);
        x.draw(2);
        dueRow(x, 1, 107, 110, 102, 2, 109, 7, 113, 103, 111);
        x.draw(3);
        dueRow(x, 1, 107, 110, 102, 2, 109, 113, 7, 103, 111);
        x.draw(4);
        dueRow(x, 1, 107, 110, 102, 2, 109, 113, 103, 7, 111);
        dueRow(x, 2, 107, 4, 5, 6, 111);
    }

    /** Five boxes and a dummy are six items, and a second dummy makes seven. */
    private static void sixItems() {
        by("Terms: one of at most six items gets that order that has the least crossings");
        RouteLayout x = boxes(11, 4);
        arrows(x, 0, 9, 1, 8, 2, 7, 3, 6, 4, 5, 0, 10);
        x.pin(10, 2);
        x.draw(0);
        dueRow(x, 0, 0, 1, 2, 3, 4);
        dueRow(x, 1, 9, 105, 8, 7, 6, 5);
        due("count(5) with six", x.count(5), 0);
        x.arrow(6, 0, 10);
        x.draw(0);
        dueRow(x, 1, 5, 6, 7, 8, 9, 105, 106);
        due("count(5) with seven", x.count(5), 18);
    }

    /** Layer 0 has three items, and another order of them would have no crossings; layer 1 has seven items. */
    private static void layerOneOn() {
        by("Terms: AT LAST: layers 1, 2, ..");
        RouteLayout x = boxes(10, 4);
        arrows(x, 0, 9, 1, 8, 2, 3, 2, 4, 2, 5, 2, 6, 2, 7);
        x.draw(0);
        dueRow(x, 0, 0, 1, 2);
        dueRow(x, 1, 3, 4, 5, 6, 7, 8, 9);
        due("count(5)", x.count(5), 11);
        x.draw(1);
        due("count(5) with a round", x.count(5), 0);
        dueRow(x, 0, 0, 1, 2);
        dueRow(x, 1, 9, 8, 3, 4, 5, 6, 7);
    }

    private static void packed() {
        by("Terms: each item begins 4 behind the end .. the first one at 0");
        RouteLayout x = boxes(16, 50);
        x.draw(0);
        for (int id = 0; id <= 15; id++) {
            due("at(" + id + ", 2)", x.at(id, 2), 54 * id);
        }
        due("count(6)", x.count(6), 860);
        RouteLayout y = boxes(2, 1);
        y.draw(0);
        due("at(0, 2)", y.at(0, 2), 0);
        due("at(1, 2)", y.at(1, 2), 5);
    }

    /** Box 1 goes far to the right of box 0, and begins anew at 5 when its arrows have gone. */
    private static void packedAnew() {
        by("Terms: first each item begins 4 behind the end, whatever was drawn before");
        RouteLayout x = boxes(4, 1);
        arrows(x, 1, 2, 1, 3);
        x.draw(0);
        due("at(1, 2)", x.at(1, 2), 9);
        x.drop(0);
        x.drop(1);
        x.draw(0);
        for (int id = 0; id < 4; id++) {
            due("at(" + id + ", 2)", x.at(id, 2), 5 * id);
        }
        x.pin(3, 8);
        x.redraw(0, 0);
        due("at(3, 2), alone in its layer", x.at(3, 2), 0);
    }

    private static void middles() {
        by("Terms: an item's MIDDLE is its x and half its width (down)");
        for (int width = 1; width <= 50; width++) {
            RouteLayout x = boxes(2, width);
            x.arrow(0, 0, 1);
            x.draw(0);
            due("piece(0, 0, 0) of " + width, x.piece(0, 0, 0), width / 2);
            due("piece(0, 0, 1) of " + width, x.piece(0, 0, 1), width / 2);
        }
    }

    /** A box 50 wide below one that is 1 wide begins at -25 before all get less by the least x. */
    private static void leastX() {
        by("Terms: then all get less by the least x");
        RouteLayout x = new RouteLayout();
        x.box(0, 1);
        x.box(1, 50);
        x.arrow(0, 0, 1);
        x.draw(0);
        due("at(0, 2)", x.at(0, 2), 25);
        due("at(1, 2)", x.at(1, 2), 0);
        due("count(6)", x.count(6), 50);
    }

    private static void straight() {
        by("Terms: a piece whose ends have different middles has a LEVEL part");
        RouteLayout x = boxes(2, 4);
        for (int a = 0; a < 24; a++) {
            x.arrow(a, 0, 1);
        }
        x.draw(0);
        for (int a = 0; a < 24; a++) {
            due("piece(" + a + ", 0, 2)", x.piece(a, 0, 2), -1);
        }
        due("between(0, 1)", x.between(0, 1), 0);
        due("count(7)", x.count(7), 0);
    }

    /**
     * Boxes 0 (8 wide), 1 (4), 2 (1) above boxes 3 (4), below 0 and 1, and 4 (1), below 2. Middles are
     * 4, 14 and 20. Pass 1: box 3 wants 18 / 2 - 2 = 7, box 4 wants 20. Pass 2: box 0 wants 9 - 4 = 5, box 1
     * gets 17, box 2 gets 25. Pass 3: box 3 wants 28 / 2 - 2 = 12, box 4 wants 25. Pass 4: box 0 wants 10, box
     * 1 gets 22, box 2 gets 30. All get less by 10: middles 4, 14 and 20 above 4 and 15. The parts are 4
     * to 14 and 15 to 20.
     */
    private static void oneApart() {
        by("Terms: the lowest track .. on which all parts taken ahead of it end to the left of where it begins");
        RouteLayout x = boxes(5, 4);
        x.box(0, 8);
        x.box(2, 1);
        x.box(4, 1);
        arrows(x, 1, 3, 0, 3, 2, 4);
        x.draw(0);
        due("piece(0, 0, 0)", x.piece(0, 0, 0), 14);
        due("piece(0, 0, 1)", x.piece(0, 0, 1), 4);
        due("piece(2, 0, 0)", x.piece(2, 0, 0), 20);
        due("piece(2, 0, 1)", x.piece(2, 0, 1), 15);
        due("piece(0, 0, 2)", x.piece(0, 0, 2), 0);
        due("piece(1, 0, 2)", x.piece(1, 0, 2), -1);
        due("piece(2, 0, 2), one apart", x.piece(2, 0, 2), 0);
        due("between(0, 1)", x.between(0, 1), 1);
    }

    /**
     * Box 0 above boxes 1 (one arrow) and 2 (23 arrows), all 1 wide. Pass 1: 0 and 5. Pass 2: box 0 wants
     * 115 / 24 = 4. Pass 3: 4 and 9. Pass 4: 211 / 24 = 8. All get less by 4: middle 4 above 0 and 5.
     */
    private static void mostTracks() {
        by("Terms: of the same ones by their arrows' numbers");
        RouteLayout x = boxes(3, 1);
        x.arrow(0, 0, 1);
        for (int a = 1; a < 24; a++) {
            x.arrow(a, 0, 2);
        }
        x.draw(0);
        due("at(0, 2)", x.at(0, 2), 4);
        for (int a = 0; a < 24; a++) {
            due("piece(" + a + ", 0, 2)", x.piece(a, 0, 2), a);
        }
        due("between(0, 1)", x.between(0, 1), 24);
        due("count(7)", x.count(7), 24);
    }

    /** Two pieces cross three others in the first orders: 6 crossings, none in a drawing. */
    private static void tolerance() {
        by("Terms: if that has more crossings, in all, than a drawing has, by more than a tolerance");
        int[] tolerances = {0, 5, 6, 7, 100000};
        for (int tolerance : tolerances) {
            RouteLayout x = boxes(4, 4);
            arrows(x, 0, 3, 0, 3, 1, 2, 1, 2, 1, 2);
            due("redraw(4, " + tolerance + ")", x.redraw(4, tolerance), 0);
            due("count(5) with " + tolerance, x.count(5), tolerance < 6 ? 0 : 6);
        }
        // The orders of OLD are kept if they have as many crossings as a drawing, or less.
        RouteLayout same = boxes(4, 4);
        arrows(same, 0, 3, 1, 2);
        same.draw(0);
        arrows(same, 0, 3, 1, 2, 0, 2, 1, 3);
        due("redraw(4, 0), as many", same.redraw(4, 0), 0);
        dueRow(same, 1, 3, 2);
        RouteLayout less = boxes(14, 4);
        for (int k = 0; k < 7; k++) {
            less.arrow(k, k, 13 - k);
        }
        less.draw(1);
        due("redraw(0, 0), less", less.redraw(0, 0), 0);
        due("count(5) as it was", less.count(5), 0);
        less.draw(0);
        due("count(5) of a drawing without rounds", less.count(5), 21);
    }

    /** Eight boxes above eight, three arrows each, the first to the last: 28 * 9 crossings. */
    private static void mostCrossings() {
        by("Terms: a tolerance, with all boxes and all arrows");
        for (int tolerance = 251; tolerance <= 252; tolerance++) {
            RouteLayout x = boxes(16, 50);
            for (int a = 0; a < 24; a++) {
                x.arrow(a, a % 8, 15 - a % 8);
            }
            x.redraw(4, tolerance);
            due("count(5) with " + tolerance, x.count(5), tolerance == 251 ? 0 : 252);
        }
    }

    private static RouteLayout oldWithDummies() {
        RouteLayout x = boxes(5, 4);
        arrows(x, 1, 3, 0, 2, 1, 4, 0, 4);
        x.pin(4, 2);
        x.draw(0);
        return x;
    }

    private static void sameLayer() {
        by("Terms: those items stand first that stood in OLD in this layer .. then the others");
        RouteLayout x = oldWithDummies();
        dueRow(x, 1, 2, 103, 3, 102);
        // Box 4 goes on to layer 3: the dummies in layer 2 are new there, and those in layer 1 the same.
        x.pin(4, 3);
        due("redraw(0, 100000)", x.redraw(0, 100000), 1);
        dueRow(x, 1, 2, 103, 3, 102);
        dueRow(x, 2, 102, 103);
        dueRow(x, 3, 4);
        // Box 2 goes to layer 2: it stood in OLD, but not in this layer.
        x.pin(2, 2);
        due("redraw(0, 100000), boxes 2 and 3", x.redraw(0, 100000), 2);
        dueRow(x, 1, 103, 3, 102, 101);
        dueRow(x, 2, 102, 103, 2);
        // Fewer layers than in OLD.
        x.pin(4, -1);
        x.pin(2, -1);
        due("redraw(0, 100000), boxes 2, 3 and 4", x.redraw(0, 100000), 3);
        dueRow(x, 1, 3, 2, 4);
        due("count(3)", x.count(3), 2);
    }

    private static void sameDummy() {
        by("Terms: a dummy is the same if it is of the arrow with the same number");
        RouteLayout x = oldWithDummies();
        x.arrow(2, 0, 4);
        x.arrow(3, 1, 4);
        x.redraw(0, 100000);
        dueRow(x, 1, 2, 103, 3, 102);
        x.drop(3);
        x.arrow(5, 1, 4);
        x.redraw(0, 100000);
        dueRow(x, 1, 2, 3, 102, 105);
        x.drop(2);
        x.arrow(2, 1, 4);
        x.redraw(0, 100000);
        dueRow(x, 1, 2, 3, 102, 105);
    }

    private static void latest() {
        by("Terms: OLD is the drawing that was made latest");
        RouteLayout x = boxes(4, 4);
        arrows(x, 0, 3, 1, 2);
        x.draw(0);
        dueRow(x, 1, 3, 2);
        arrows(x, 0, 2, 1, 3);
        x.draw(0);
        due("redraw(0, 100000) of the second drawing", x.redraw(0, 100000), 0);
        dueRow(x, 1, 2, 3);
        arrows(x, 0, 3, 1, 2);
        due("redraw(0, 0)", x.redraw(0, 0), 2);
        dueRow(x, 1, 3, 2);
        due("redraw(0, 0) of a redrawing", x.redraw(0, 0), 0);
        dueRow(x, 1, 3, 2);
        for (int id = 0; id < 4; id++) {
            x.remove(id);
        }
        due("redraw(0, 0) without boxes", x.redraw(0, 0), 0);
        for (int id = 0; id < 4; id++) {
            x.box(id, 4);
        }
        arrows(x, 0, 3, 1, 2);
        due("redraw(0, 1) with an OLD without boxes", x.redraw(0, 1), 0);
        dueRow(x, 1, 2, 3);
    }

    private static void ends(String call, RouteLayout x, Call made) {
        x.draw(1);
        due("count(3) ahead of " + call, x.count(3) > 0, true);
        made.run();
        dueUntold(x);
    }

    private static void untilCalled() {
        by("Terms: until box(), arrow(), pin(), or remove() and drop() that answer true, are called");
        RouteLayout x = sample();
        ends("box(4, 1)", x, () -> x.box(4, 1));
        ends("box(0, 4), the same again", x, () -> x.box(0, 4));
        ends("arrow(5, 1, 3)", x, () -> x.arrow(5, 1, 3));
        ends("arrow(5, 1, 3), the same again", x, () -> x.arrow(5, 1, 3));
        RouteLayout y = sample();
        ends("pin(3, 2), the same again", y, () -> y.pin(3, 2));
        ends("pin(3, -1)", y, () -> y.pin(3, -1));
        ends("pin(3, -1) of one that isn't pinned", y, () -> y.pin(3, -1));
        ends("drop(4)", y, () -> y.drop(4));
        ends("remove(3)", y, () -> y.remove(3));
        y.draw(0);
        due("count(3), told again", y.count(3), 3);
        y.box(0, 50);
        y.redraw(0, 0);
        due("count(3), told again by redraw()", y.count(3), 3);
    }

    private static void notUntilCalled() {
        by("Terms: what is told stays behind remove() and drop() that answer false, and behind questions");
        RouteLayout x = sample();
        x.draw(1);
        String told = everything(x);
        due("remove(4)", x.remove(4), false);
        due("remove(15)", x.remove(15), false);
        due("drop(5)", x.drop(5), false);
        due("drop(23)", x.drop(23), false);
        due("everything", everything(x), told);
        due("everything, asked again", everything(x), told);
    }

    public static void main(String[] args) {
        calls();
        boxNumbers();
        widths();
        pins();
        arrowNumbers();
        toAnother();
        closesCycle();
        takenByNumbers();
        upperEnds();
        layers();
        contradicted();
        pinsAllClose();
        dummies();
        firstOrder();
        crossings();
        medians();
        neighboursTwice();
        aboveAndBelow();
        rounds();
        sixItems();
        layerOneOn();
        packed();
        packedAnew();
        middles();
        leastX();
        straight();
        oneApart();
        mostTracks();
        tolerance();
        mostCrossings();
        sameLayer();
        sameDummy();
        latest();
        untilCalled();
        notUntilCalled();
        end();
    }
}
