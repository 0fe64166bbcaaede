/** Each sentence of promises 9 to 14 that names an edge, at that edge and beside it. */
public final class AnswersEdgesTest extends Answers {
    /** The numbers beside 0 .. greatest, and those far away. */
    private static int[] beside(int greatest) {
        return new int[] {-1, greatest + 1, LOW, HIGH};
    }

    /**
     * Box 0 above boxes 1 and 2, all 10 wide. Pass 1: 0 and 14. Pass 2: box 0 wants 24 / 2 - 5 = 7. Pass 3:
     * 7 and 21. Pass 4: box 0 wants 38 / 2 - 5 = 14. All get less by 7.
     */
    private static RouteLayout fork() {
        RouteLayout x = boxes(3, 10);
        arrows(x, 0, 1, 0, 2);
        return x;
    }

    private static void atWhats() {
        by("Promise 9: what 0: its layer, 1: its place, 2: its x");
        RouteLayout x = fork();
        x.draw(0);
        int[][] due = {{0, 0, 7}, {1, 0, 0}, {1, 1, 14}};
        for (int id = 0; id < 3; id++) {
            for (int what = 0; what <= 2; what++) {
                due("at(" + id + ", " + what + ")", x.at(id, what), due[id][what]);
            }
        }
    }

    private static void atNotThere() {
        by("Promise 9: -1 if it isn't there");
        RouteLayout x = fork();
        x.draw(0);
        for (int id = 3; id <= 15; id++) {
            for (int what = 0; what <= 2; what++) {
                due("at(" + id + ", " + what + ")", x.at(id, what), -1);
            }
        }
        x.remove(2);
        x.draw(0);
        due("at(2, 0), removed", x.at(2, 0), -1);
        due("at(1, 0)", x.at(1, 0), 1);
    }

    private static void atUntold() {
        by("Promise 9: -1 if .. nothing is told");
        RouteLayout x = fork();
        for (int what = 0; what <= 2; what++) {
            due("at(0, " + what + ") without a drawing", x.at(0, what), -1);
        }
        x.draw(0);
        x.box(3, 1);
        for (int what = 0; what <= 2; what++) {
            due("at(0, " + what + ") behind box()", x.at(0, what), -1);
        }
    }

    private static void atRefused() {
        by("Promise 9: also another what");
        RouteLayout x = fork();
        for (int told = 0; told <= 1; told++) {
            for (int id : new int[] {0, 2, 3, 15}) {
                for (int what : beside(2)) {
                    refused("at(" + id + ", " + what + ")", () -> x.at(id, what));
                }
            }
            for (int id : beside(15)) {
                for (int what : new int[] {-1, 0, 2, 3}) {
                    refused("at(" + id + ", " + what + ")", () -> x.at(id, what));
                }
            }
            x.draw(0);
        }
        due("at(0, 2)", x.at(0, 2), 7);
    }

    private static void reversedEdges() {
        by("Promise 10: 1 if an arrow is reversed, 0 if not; -1 if it isn't there");
        RouteLayout x = boxes(16, 1);
        x.arrow(0, 0, 15);
        x.arrow(23, 15, 0);
        due("reversed(0)", x.reversed(0), 0);
        due("reversed(23)", x.reversed(23), 1);
        for (int a = 1; a < 23; a++) {
            due("reversed(" + a + ")", x.reversed(a), -1);
        }
        x.drop(0);
        due("reversed(0)", x.reversed(0), -1);
        due("reversed(23)", x.reversed(23), 0);
        x.remove(15);
        due("reversed(23)", x.reversed(23), -1);
        for (int a : beside(23)) {
            refused("reversed(" + a + ")", () -> x.reversed(a));
        }
    }

    private static void reversedUntold() {
        by("Promise 10: it is told without a drawing, too");
        RouteLayout x = boxes(2, 1);
        arrows(x, 0, 1, 1, 0);
        due("reversed(1) before any drawing", x.reversed(1), 1);
        x.draw(0);
        due("reversed(1) of a drawing", x.reversed(1), 1);
        x.pin(0, 4);
        due("reversed(1) behind pin()", x.reversed(1), 1);
        x.pin(1, 0);
        due("draw(0)", x.draw(0), false);
        due("reversed(1), contradicted", x.reversed(1), 1);
        due("reversed(0), contradicted", x.reversed(0), 0);
    }

    private static void itemNames() {
        by("Promise 11: a box's number; 100 and its arrow's number for a dummy");
        RouteLayout x = boxes(16, 1);
        x.arrow(0, 0, 15);
        x.arrow(23, 0, 15);
        x.pin(15, 2);
        x.draw(0);
        for (int place = 0; place < 15; place++) {
            due("item(0, " + place + ")", x.item(0, place), place);
        }
        dueRow(x, 1, 100, 123);
        dueRow(x, 2, 15);
    }

    private static void itemNone() {
        by("Promise 11: -1 if there is none");
        RouteLayout x = fork();
        x.pin(2, 8);
        x.draw(0);
        due("item(8, 0), the last layer", x.item(8, 0), 2);
        due("item(8, 1)", x.item(8, 1), -1);
        due("item(1, 1)", x.item(1, 1), 101);
        for (int layer : new int[] {-1, 9, 10, 23, 24, 25, LOW, HIGH}) {
            due("item(" + layer + ", 0)", x.item(layer, 0), -1);
            due("item(" + layer + ", -1)", x.item(layer, -1), -1);
            due("item(" + layer + ", " + HIGH + ")", x.item(layer, HIGH), -1);
        }
        for (int place : new int[] {-1, 2, 15, 16, 39, 40, 41, LOW, HIGH}) {
            due("item(1, " + place + ")", x.item(1, place), -1);
        }
    }

    private static void itemEmptyLayer() {
        by("Promise 11: -1 if there is none, in a layer without items");
        RouteLayout x = boxes(1, 5);
        x.pin(0, 8);
        x.draw(0);
        for (int layer = 0; layer < 8; layer++) {
            due("item(" + layer + ", 0)", x.item(layer, 0), -1);
        }
        due("item(8, 0)", x.item(8, 0), 0);
        due("count(3)", x.count(3), 9);
        // A drawing with fewer items tells nothing of the one before.
        x.pin(0, 0);
        x.draw(0);
        due("item(8, 0)", x.item(8, 0), -1);
        due("item(0, 0)", x.item(0, 0), 0);
    }

    private static void itemUntold() {
        by("Promise 11: -1 if .. nothing is told");
        RouteLayout x = fork();
        due("item(0, 0) without a drawing", x.item(0, 0), -1);
        x.draw(0);
        due("item(0, 0)", x.item(0, 0), 0);
        x.drop(0);
        due("item(0, 0) behind drop()", x.item(0, 0), -1);
        for (int odd : new int[] {-1, 24, LOW, HIGH}) {
            due("item(" + odd + ", " + odd + ")", x.item(odd, odd), -1);
        }
    }

    /** The middles are 12 above 5 and 19. */
    private static void pieceWhats() {
        by("Promise 12: what 0: the middle of its upper end, 1: that of its lower end, 2: its track");
        RouteLayout x = fork();
        x.draw(0);
        int[][] due = {{12, 5, 0}, {12, 19, 1}};
        for (int a = 0; a <= 1; a++) {
            for (int what = 0; what <= 2; what++) {
                due("piece(" + a + ", 0, " + what + ")", x.piece(a, 0, what), due[a][what]);
            }
        }
        x.drop(1);
        x.draw(0);
        due("piece(0, 0, 2), without a level part", x.piece(0, 0, 2), -1);
        due("piece(0, 0, 0)", x.piece(0, 0, 0), x.piece(0, 0, 1));
    }

    private static void pieceOfLeast() {
        by("Promise 12: the piece of an arrow that begins in a layer, between the least and the greatest box");
        RouteLayout x = boxes(16, 10);
        x.arrow(23, 15, 0);
        x.draw(0);
        due("piece(23, 0, 0)", x.piece(23, 0, 0), x.at(15, 2) + 5);
        due("piece(23, 0, 1), to box 0", x.piece(23, 0, 1), x.at(0, 2) + 5);
        due("piece(23, 1, 0)", x.piece(23, 1, 0), -1);
        x.arrow(23, 0, 15);
        x.draw(0);
        due("piece(23, 0, 0), from box 0", x.piece(23, 0, 0), x.at(0, 2) + 5);
        due("piece(23, 0, 1), to box 15", x.piece(23, 0, 1), x.at(15, 2) + 5);
    }

    private static void pieceNone() {
        by("Promise 12: -1 if there is no such piece");
        RouteLayout x = boxes(4, 2);
        arrows(x, 0, 1, 1, 2, 0, 2);
        x.arrow(23, 2, 0);
        x.draw(0);
        int[][] pieces = {{0, 0, 0}, {1, 1, 1}, {2, 0, 1}, {23, 0, 1}};
        for (int[] of : pieces) {
            for (int layer = -1; layer <= 3; layer++) {
                boolean there = of[1] <= layer && layer <= of[2];
                due("piece(" + of[0] + ", " + layer + ", 0) >= 0", x.piece(of[0], layer, 0) >= 0, there);
                due("piece(" + of[0] + ", " + layer + ", 1) >= 0", x.piece(of[0], layer, 1) >= 0, there);
            }
            for (int layer : new int[] {-1, of[1] - 1, of[2] + 1, 22, 23, 24, LOW, HIGH}) {
                for (int what = 0; what <= 2; what++) {
                    due("piece(" + of[0] + ", " + layer + ", " + what + ")", x.piece(of[0], layer, what), -1);
                }
            }
        }
        for (int a = 3; a < 23; a++) {
            due("piece(" + a + ", 0, 0) of no arrow", x.piece(a, 0, 0), -1);
            due("piece(" + a + ", 0, 2) of no arrow", x.piece(a, 0, 2), -1);
        }
    }

    private static void pieceUntold() {
        by("Promise 12: -1 if .. nothing is told");
        RouteLayout x = fork();
        for (int what = 0; what <= 2; what++) {
            due("piece(0, 0, " + what + ") without a drawing", x.piece(0, 0, what), -1);
            due("piece(0, -1, " + what + ") without a drawing", x.piece(0, -1, what), -1);
        }
        x.draw(0);
        x.pin(0, 0);
        for (int what = 0; what <= 2; what++) {
            due("piece(0, 0, " + what + ") behind pin()", x.piece(0, 0, what), -1);
        }
    }

    private static void pieceRefused() {
        by("Promise 12: no such arrow, another what");
        RouteLayout x = fork();
        for (int told = 0; told <= 1; told++) {
            for (int a : new int[] {0, 1, 2, 23}) {
                for (int what : beside(2)) {
                    refused("piece(" + a + ", 0, " + what + ")", () -> x.piece(a, 0, what));
                    refused("piece(" + a + ", -1, " + what + ")", () -> x.piece(a, -1, what));
                }
            }
            for (int a : beside(23)) {
                for (int what : new int[] {-1, 0, 2, 3}) {
                    refused("piece(" + a + ", 0, " + what + ")", () -> x.piece(a, 0, what));
                    refused("piece(" + a + ", 9, " + what + ")", () -> x.piece(a, 9, what));
                }
            }
            x.draw(0);
        }
        due("piece(0, 0, 0)", x.piece(0, 0, 0), 12);
    }

    private static void betweenEdges() {
        by("Promise 13: of a layer and the next one .. -1 if one isn't there");
        RouteLayout x = boxes(3, 10);
        arrows(x, 0, 1, 0, 2);
        x.pin(2, 8);
        x.draw(0);
        for (int what = 0; what <= 1; what++) {
            for (int layer = 0; layer <= 7; layer++) {
                due("between(" + layer + ", " + what + ") >= 0", x.between(layer, what) >= 0, true);
            }
            for (int layer : new int[] {-1, 8, 9, 22, 23, 24, LOW, HIGH}) {
                due("between(" + layer + ", " + what + ")", x.between(layer, what), -1);
            }
        }
    }

    private static void betweenFewLayers() {
        by("Promise 13: -1 if one isn't there, with one layer and with none");
        for (int count = 0; count <= 1; count++) {
            RouteLayout x = boxes(count, 10);
            x.draw(0);
            for (int layer = -1; layer <= 1; layer++) {
                due("between(" + layer + ", 0) with " + count, x.between(layer, 0), -1);
                due("between(" + layer + ", 1) with " + count, x.between(layer, 1), -1);
            }
        }
        RouteLayout y = boxes(1, 10);
        y.pin(0, 8);
        y.draw(0);
        for (int layer = 0; layer <= 7; layer++) {
            due("between(" + layer + ", 0), empty layers", y.between(layer, 0), 0);
            due("between(" + layer + ", 1), empty layers", y.between(layer, 1), 0);
        }
        due("between(8, 0)", y.between(8, 0), -1);
    }

    private static void betweenUntold() {
        by("Promise 13: -1 if .. nothing is told");
        RouteLayout x = fork();
        due("between(0, 0) without a drawing", x.between(0, 0), -1);
        due("between(0, 1) without a drawing", x.between(0, 1), -1);
        x.draw(0);
        due("between(0, 0)", x.between(0, 0), 0);
        due("between(0, 1)", x.between(0, 1), 2);
        x.arrow(0, 0, 1);
        due("between(0, 0) behind arrow()", x.between(0, 0), -1);
        due("between(0, 1) behind arrow()", x.between(0, 1), -1);
    }

    private static void betweenRefused() {
        by("Promise 13: another what");
        RouteLayout x = fork();
        for (int told = 0; told <= 1; told++) {
            for (int what : beside(1)) {
                for (int layer : new int[] {0, -1, 1, 24, LOW, HIGH}) {
                    refused("between(" + layer + ", " + what + ")", () -> x.between(layer, what));
                }
            }
            x.draw(0);
        }
        due("between(0, 1)", x.between(0, 1), 2);
    }

    private static void dueCounts(String when, RouteLayout x, int... counts) {
        for (int what = 0; what <= 7; what++) {
            due("count(" + what + ") " + when, x.count(what), counts[what]);
        }
        for (int what : beside(7)) {
            due("count(" + what + ") " + when, x.count(what), -1);
        }
    }

    private static void counts() {
        by("Promise 14: -1 if nothing is told; -1 for another what");
        RouteLayout x = new RouteLayout();
        dueCounts("of a new object", x, 0, 0, 0, -1, -1, -1, -1, -1);
        x.draw(0);
        dueCounts("without items", x, 0, 0, 0, 0, 0, 0, 0, 0);
        x.box(0, 10);
        dueCounts("behind box()", x, 1, 0, 0, -1, -1, -1, -1, -1);
        x.draw(0);
        dueCounts("of one box", x, 1, 0, 0, 1, 1, 0, 10, 0);
        x.box(1, 10);
        x.arrow(0, 0, 1);
        x.arrow(23, 1, 0);
        dueCounts("behind arrow()", x, 2, 2, 1, -1, -1, -1, -1, -1);
        x.draw(0);
        dueCounts("of two boxes", x, 2, 2, 1, 2, 2, 0, 10, 0);
        x.remove(0);
        dueCounts("behind remove()", x, 1, 0, 0, -1, -1, -1, -1, -1);
        x.pin(1, 8);
        x.draw(0);
        dueCounts("of one box in layer 8", x, 1, 0, 0, 9, 1, 0, 10, 0);
        x.remove(1);
        x.draw(0);
        dueCounts("without boxes again", x, 0, 0, 0, 0, 0, 0, 0, 0);
    }

    /** Boxes 0 and 3 above 1 and 4 above 2 and 5, with arrows from each to both below: a crossing each time. */
    private static void inAll() {
        by("Promise 14: crossings in all, the most tracks between two layers");
        RouteLayout x = boxes(6, 10);
        arrows(x, 0, 1, 0, 4, 3, 1, 3, 4, 1, 2, 1, 5, 4, 2, 4, 5);
        x.draw(4);
        due("count(3)", x.count(3), 3);
        due("between(0, 0)", x.between(0, 0), 1);
        due("between(1, 0)", x.between(1, 0), 1);
        due("count(5)", x.count(5), 2);
        due("count(7)", x.count(7), Math.max(x.between(0, 1), x.between(1, 1)));
        x.drop(5);
        x.drop(6);
        x.drop(7);
        x.draw(4);
        due("count(5)", x.count(5), x.between(0, 0) + x.between(1, 0));
        due("count(7)", x.count(7), Math.max(x.between(0, 1), x.between(1, 1)));
    }

    /** What the drawing before had between layers that are not there any more isn't told. */
    private static void fewerLayers() {
        by("Promise 14: the most tracks between two layers, behind a drawing with more layers");
        RouteLayout x = boxes(4, 10);
        arrows(x, 0, 1, 1, 2, 1, 3);
        x.draw(0);
        due("between(0, 1)", x.between(0, 1), 0);
        due("between(1, 1)", x.between(1, 1), 2);
        due("count(7)", x.count(7), 2);
        x.remove(2);
        x.remove(3);
        x.draw(0);
        due("between(1, 1)", x.between(1, 1), -1);
        due("count(7) of two layers", x.count(7), 0);
        RouteLayout y = fork();
        y.draw(0);
        due("count(7) of a fork", y.count(7), 2);
        y.drop(0);
        y.drop(1);
        y.draw(0);
        due("count(7) of one layer", y.count(7), 0);
        due("count(5) of one layer", y.count(5), 0);
        y.remove(0);
        y.remove(1);
        y.remove(2);
        y.draw(0);
        due("count(7) without layers", y.count(7), 0);
        due("count(6) without items", y.count(6), 0);
    }

    public static void main(String[] args) {
        atWhats();
        atNotThere();
        atUntold();
        atRefused();
        reversedEdges();
        reversedUntold();
        itemNames();
        itemNone();
        itemEmptyLayer();
        itemUntold();
        pieceWhats();
        pieceOfLeast();
        pieceNone();
        pieceUntold();
        pieceRefused();
        betweenEdges();
        betweenFewLayers();
        betweenUntold();
        betweenRefused();
        counts();
        inAll();
        fewerLayers();
        end();
    }
}
