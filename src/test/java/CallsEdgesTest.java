/** Each sentence of promises 1 to 8 that names an edge, at that edge and beside it. */
public final class CallsEdgesTest extends Answers {
    private static void noBoxes() {
        by("Promise 1: no boxes, no drawing");
        RouteLayout x = new RouteLayout();
        for (int what = 0; what <= 2; what++) {
            due("count(" + what + ")", x.count(what), 0);
        }
        for (int id = 0; id <= 15; id++) {
            due("at(" + id + ", 0)", x.at(id, 0), -1);
            due("remove(" + id + ")", x.remove(id), false);
        }
        for (int a = 0; a <= 23; a++) {
            due("reversed(" + a + ")", x.reversed(a), -1);
            due("drop(" + a + ")", x.drop(a), false);
        }
        dueUntold(x);
        refused("arrow(0, 0, 1)", () -> x.arrow(0, 0, 1));
        refused("pin(0, 0)", () -> x.pin(0, 0));
        refused("pin(0, -1)", () -> x.pin(0, -1));
        dueUntold(x);
    }

    private static void ownState() {
        by("Promise 1: a new object has nothing of another one");
        RouteLayout x = sample();
        x.draw(2);
        RouteLayout y = new RouteLayout();
        due("count(0)", y.count(0), 0);
        dueUntold(y);
        due("redraw(0, 0), no OLD", y.redraw(0, 0), 0);
        due("count(3) of the other one", x.count(3), 3);
    }

    private static void boxAgain() {
        by("Promise 2: or has another width (then it stays where it is pinned)");
        RouteLayout x = boxes(2, 4);
        x.arrow(0, 0, 1);
        x.pin(0, 8);
        x.pin(1, 0);
        x.box(0, 50);
        due("count(0)", x.count(0), 2);
        due("count(1), its arrow stays", x.count(1), 1);
        due("draw(0), contradicted as before", x.draw(0), false);
        x.box(1, 1);
        due("draw(0)", x.draw(0), false);
        x.pin(1, -1);
        x.box(1, 50);
        due("draw(0)", x.draw(0), true);
        due("at(0, 0), where it is pinned", x.at(0, 0), 8);
        due("at(1, 0), not pinned", x.at(1, 0), 9);
        due("count(6)", x.count(6), 50);
    }

    private static void boxMadeAgain() {
        by("Promise 2: a box is there");
        RouteLayout x = boxes(1, 4);
        x.pin(0, 8);
        x.remove(0);
        x.box(0, 4);
        x.draw(0);
        due("at(0, 0) of a box that was removed with its pin", x.at(0, 0), 0);
    }

    private static void allArrowsGo() {
        by("Promise 3: a box goes, with all its arrows");
        RouteLayout x = boxes(16, 4);
        for (int a = 0; a < 24; a++) {
            boolean from = a % 2 == 0;
            x.arrow(a, from ? 0 : 1 + a % 15, from ? 1 + a % 15 : 0);
        }
        due("count(1)", x.count(1), 24);
        due("remove(0)", x.remove(0), true);
        due("count(0)", x.count(0), 15);
        due("count(1)", x.count(1), 0);
        due("count(2)", x.count(2), 0);
        for (int a = 0; a < 24; a++) {
            due("reversed(" + a + ")", x.reversed(a), -1);
            due("drop(" + a + ")", x.drop(a), false);
        }
        due("remove(0) again", x.remove(0), false);
    }

    private static void otherArrowsStay() {
        by("Promise 3: its arrows, no others");
        RouteLayout x = boxes(4, 4);
        arrows(x, 0, 1, 1, 2, 2, 3, 3, 0);
        due("count(2)", x.count(2), 1);
        due("remove(1)", x.remove(1), true);
        due("count(1)", x.count(1), 2);
        due("count(2)", x.count(2), 0);
        due("reversed(0)", x.reversed(0), -1);
        due("reversed(1)", x.reversed(1), -1);
        due("reversed(2)", x.reversed(2), 0);
        due("reversed(3)", x.reversed(3), 0);
        x.draw(0);
        due("at(0, 0)", x.at(0, 0), 2);
        due("at(1, 0)", x.at(1, 0), -1);
        x.box(1, 4);
        due("count(1), the arrows don't come back", x.count(1), 2);
    }

    private static void removeToTheLast() {
        by("Promise 3: false if it isn't there");
        RouteLayout x = boxes(16, 4);
        for (int id = 15; id >= 0; id--) {
            due("remove(" + id + ")", x.remove(id), true);
            due("remove(" + id + ") again", x.remove(id), false);
            due("count(0)", x.count(0), id);
        }
        due("draw(0) behind all", x.draw(0), true);
        due("count(3)", x.count(3), 0);
    }

    private static void inPlace() {
        by("Promise 4: in place of what was there");
        RouteLayout x = boxes(4, 4);
        arrows(x, 0, 1, 1, 0);
        due("reversed(1)", x.reversed(1), 1);
        x.arrow(0, 1, 0);
        due("count(1)", x.count(1), 2);
        due("reversed(0), the other way round", x.reversed(0), 0);
        due("reversed(1), the same way", x.reversed(1), 0);
        x.arrow(1, 2, 3);
        x.arrow(0, 3, 2);
        due("reversed(0)", x.reversed(0), 0);
        due("reversed(1)", x.reversed(1), 1);
        x.draw(0);
        due("at(0, 0), without arrows", x.at(0, 0), 0);
        due("at(1, 0), without arrows", x.at(1, 0), 0);
        due("at(3, 0)", x.at(3, 0), 0);
        due("at(2, 0)", x.at(2, 0), 1);
        refused("arrow(0, 0, 0)", () -> x.arrow(0, 0, 0));
        refused("arrow(0, 0, 4)", () -> x.arrow(0, 0, 4));
        x.draw(0);
        due("at(2, 0), what was there stays", x.at(2, 0), 1);
    }

    private static void ends() {
        by("Promise 4: also if a box isn't there, or both are one");
        RouteLayout x = boxes(16, 4);
        taken("arrow(0, 0, 15)", () -> x.arrow(0, 0, 15));
        taken("arrow(23, 15, 0)", () -> x.arrow(23, 15, 0));
        x.remove(15);
        x.remove(7);
        due("count(1)", x.count(1), 0);
        for (int id : new int[] {15, 7}) {
            refused("arrow(0, 0, " + id + ")", () -> x.arrow(0, 0, id));
            refused("arrow(0, " + id + ", 0)", () -> x.arrow(0, id, 0));
            refused("arrow(0, " + id + ", " + id + ")", () -> x.arrow(0, id, id));
        }
        refused("arrow(0, 0, 0)", () -> x.arrow(0, 0, 0));
        refused("arrow(23, 14, 14)", () -> x.arrow(23, 14, 14));
        due("count(1)", x.count(1), 0);
        x.box(15, 4);
        taken("arrow(0, 0, 15), as it is there again", () -> x.arrow(0, 0, 15));
    }

    private static void allThere() {
        by("Promise 4: all boxes and all arrows there");
        RouteLayout x = boxes(16, 50);
        for (int a = 0; a < 24; a++) {
            x.arrow(a, a % 8, 8 + a / 3);
        }
        due("count(0)", x.count(0), 16);
        due("count(1)", x.count(1), 24);
        refused("box(16, 50)", () -> x.box(16, 50));
        refused("arrow(24, 0, 8)", () -> x.arrow(24, 0, 8));
        for (int rounds = 0; rounds <= 4; rounds++) {
            due("draw(" + rounds + ")", x.draw(rounds), true);
            due("count(3)", x.count(3), 2);
            due("count(4)", x.count(4), 16);
        }
        x.arrow(23, 0, 8);
        due("count(1), one in place of another", x.count(1), 24);
        due("drop(23)", x.drop(23), true);
        due("count(1)", x.count(1), 23);
    }

    /** Box 0 in layer 8 above a chain of all others, and nine arrows that pass by it to the last one. */
    private static void allDeep() {
        by("Promise 4: all boxes and all arrows there, in the most layers");
        RouteLayout x = boxes(16, 50);
        for (int a = 0; a < 15; a++) {
            x.arrow(a, a, a + 1);
        }
        for (int a = 15; a < 24; a++) {
            x.arrow(a, 0, 15);
        }
        x.pin(0, 8);
        due("draw(4)", x.draw(4), true);
        due("count(3)", x.count(3), 24);
        due("count(4)", x.count(4), 16 + 9 * 14);
        due("count(5)", x.count(5), 0);
        due("at(0, 0)", x.at(0, 0), 8);
        due("at(15, 0)", x.at(15, 0), 23);
        due("item(22, 9)", x.item(22, 9), 123);
        due("piece(14, 22, 1)", x.piece(14, 22, 1), x.piece(23, 22, 1));
        due("redraw(4, 0)", x.redraw(4, 0), 0);
    }

    private static void dropEdges() {
        by("Promise 5: an arrow goes; false if it isn't there");
        RouteLayout x = boxes(2, 4);
        for (int a = 0; a < 24; a++) {
            x.arrow(a, a % 2, 1 - a % 2);
        }
        due("count(2)", x.count(2), 12);
        for (int a = 0; a < 24; a++) {
            due("drop(" + a + ")", x.drop(a), true);
            due("drop(" + a + ") again", x.drop(a), false);
            due("count(1)", x.count(1), 23 - a);
        }
        due("count(0), the boxes stay", x.count(0), 2);
        due("count(2)", x.count(2), 0);
        x.arrow(0, 1, 0);
        due("drop(0) of one that came again", x.drop(0), true);
    }

    private static void pinEdges() {
        by("Promise 6: is pinned to a layer, or (-1) not pinned any more");
        RouteLayout x = boxes(16, 4);
        x.pin(0, 0);
        x.pin(15, 8);
        x.arrow(0, 0, 15);
        x.draw(0);
        due("at(0, 0)", x.at(0, 0), 0);
        due("at(15, 0)", x.at(15, 0), 8);
        x.pin(15, 7);
        x.draw(0);
        due("at(15, 0), pinned elsewhere", x.at(15, 0), 7);
        x.pin(15, -1);
        x.draw(0);
        due("at(15, 0), not pinned any more", x.at(15, 0), 1);
        x.pin(15, -1);
        x.draw(0);
        due("at(15, 0), not pinned, twice said", x.at(15, 0), 1);
        x.pin(0, 8);
        x.draw(0);
        due("at(15, 0), behind layer 8", x.at(15, 0), 9);
        for (int layer : new int[] {-2, 9, 10, 23, LOW, HIGH}) {
            refused("pin(15, " + layer + ")", () -> x.pin(15, layer));
        }
        x.draw(0);
        due("at(15, 0) behind wrong pins", x.at(15, 0), 9);
    }

    private static void pinNotThere() {
        by("Promise 6: also if it isn't there");
        RouteLayout x = boxes(16, 4);
        x.remove(15);
        x.remove(0);
        for (int id : new int[] {0, 15, -1, 16, LOW, HIGH}) {
            refused("pin(" + id + ", 0)", () -> x.pin(id, 0));
            refused("pin(" + id + ", 8)", () -> x.pin(id, 8));
            refused("pin(" + id + ", -1)", () -> x.pin(id, -1));
            refused("pin(" + id + ", 9)", () -> x.pin(id, 9));
        }
        x.box(15, 4);
        x.draw(0);
        due("at(15, 0), not pinned by what was refused", x.at(15, 0), 0);
    }

    private static void drawEdges() {
        by("Promise 7: with 0 .. 4 rounds");
        RouteLayout x = sample();
        for (int rounds : new int[] {-1, 5, LOW, HIGH}) {
            refused("draw(" + rounds + ")", () -> x.draw(rounds));
            dueUntold(x);
        }
        for (int rounds = 0; rounds <= 4; rounds++) {
            due("draw(" + rounds + ")", x.draw(rounds), true);
        }
        due("count(3)", x.count(3), 3);
    }

    private static void drawNothing() {
        by("Promise 7: draws, without boxes");
        RouteLayout x = new RouteLayout();
        for (int rounds = 0; rounds <= 4; rounds++) {
            due("draw(" + rounds + ")", x.draw(rounds), true);
            due("count(3)", x.count(3), 0);
            due("count(4)", x.count(4), 0);
        }
        due("redraw(4, 100000)", x.redraw(4, 100000), 0);
        due("count(6)", x.count(6), 0);
        x.box(15, 7);
        dueUntold(x);
        due("redraw(0, 0), the first box", x.redraw(0, 0), 0);
        due("at(15, 1)", x.at(15, 1), 0);
    }

    private static void contradictedFirst() {
        by("Promises 7 and 8: the pins contradict before any drawing");
        RouteLayout x = boxes(4, 4);
        arrows(x, 0, 3, 1, 2);
        x.pin(2, 0);
        for (int rounds = 0; rounds <= 4; rounds++) {
            due("draw(" + rounds + ")", x.draw(rounds), false);
            due("redraw(" + rounds + ", 0)", x.redraw(rounds, 0), -1);
        }
        due("redraw(0, 100000)", x.redraw(0, 100000), -1);
        dueUntold(x);
        due("reversed(0), told all the same", x.reversed(0), 0);
        due("count(1), told all the same", x.count(1), 2);
        refused("draw(5), wrong and contradicted", () -> x.draw(5));
        refused("redraw(-1, 0), wrong and contradicted", () -> x.redraw(-1, 0));
        refused("redraw(0, 100001), wrong and contradicted", () -> x.redraw(0, 100001));
        x.pin(2, -1);
        due("redraw(0, 1), there is no OLD", x.redraw(0, 1), 0);
        dueRow(x, 1, 2, 3);
    }

    private static void contradictedLater() {
        by("Promises 7 and 8: the pins contradict behind a drawing: nothing is told; OLD stays");
        RouteLayout x = boxes(4, 4);
        arrows(x, 0, 3, 1, 2);
        x.draw(0);
        dueRow(x, 1, 3, 2);
        x.pin(3, 0);
        due("draw(4)", x.draw(4), false);
        dueUntold(x);
        due("redraw(4, 100000)", x.redraw(4, 100000), -1);
        dueUntold(x);
        x.pin(3, -1);
        dueUntold(x);
        due("redraw(0, 0) by OLD", x.redraw(0, 0), 0);
        dueRow(x, 1, 3, 2);
        // The contradiction goes with the arrow, and with the box.
        x.pin(3, 0);
        due("draw(0)", x.draw(0), false);
        x.drop(0);
        due("redraw(0, 0), box 3 in layer 0 and box 2 alone", x.redraw(0, 0), 2);
        dueRow(x, 0, 0, 1, 3);
        dueRow(x, 1, 2);
        x.pin(2, 0);
        due("redraw(0, 0)", x.redraw(0, 0), -1);
        x.remove(1);
        due("redraw(0, 0) without box 1: boxes 2 and 3", x.redraw(0, 0), 2);
        dueRow(x, 0, 0, 3, 2);
    }

    private static void redrawEdges() {
        by("Promise 8: with a tolerance 0 .. 100000, and 0 .. 4 rounds");
        RouteLayout x = sample();
        for (int rounds : new int[] {-1, 5, LOW, HIGH}) {
            refused("redraw(" + rounds + ", 0)", () -> x.redraw(rounds, 0));
            refused("redraw(" + rounds + ", 100000)", () -> x.redraw(rounds, 100000));
            refused("redraw(" + rounds + ", -1)", () -> x.redraw(rounds, -1));
        }
        for (int tolerance : new int[] {-1, 100001, LOW, HIGH}) {
            refused("redraw(0, " + tolerance + ")", () -> x.redraw(0, tolerance));
            refused("redraw(4, " + tolerance + ")", () -> x.redraw(4, tolerance));
        }
        dueUntold(x);
        for (int rounds = 0; rounds <= 4; rounds++) {
            due("redraw(" + rounds + ", 0)", x.redraw(rounds, 0), 0);
            due("redraw(" + rounds + ", 99999)", x.redraw(rounds, 99999), 0);
            due("redraw(" + rounds + ", 100000)", x.redraw(rounds, 100000), 0);
        }
        due("count(3)", x.count(3), 3);
    }

    private static void redrawWithoutOld() {
        by("Promise 8: boxes that stood in OLD: none without OLD");
        RouteLayout kept = boxes(4, 4);
        arrows(kept, 0, 3, 1, 2);
        due("redraw(0, 1)", kept.redraw(0, 1), 0);
        dueRow(kept, 1, 2, 3);
        due("count(5), the first orders", kept.count(5), 1);
        RouteLayout drawn = boxes(4, 4);
        arrows(drawn, 0, 3, 1, 2);
        due("redraw(0, 0)", drawn.redraw(0, 0), 0);
        dueRow(drawn, 1, 3, 2);
        due("count(5), drawn", drawn.count(5), 0);
    }

    private static void redrawRounds() {
        by("Promise 8: 0 .. 4 rounds if it comes to drawing");
        for (int rounds = 0; rounds <= 1; rounds++) {
            RouteLayout x = boxes(14, 4);
            for (int k = 0; k < 7; k++) {
                x.arrow(k, k, 13 - k);
            }
            due("redraw(" + rounds + ", 0)", x.redraw(rounds, 0), 0);
            due("count(5) with " + rounds + " rounds", x.count(5), rounds == 0 ? 21 : 0);
        }
        // No rounds where the orders of OLD are kept.
        RouteLayout y = boxes(14, 4);
        for (int k = 0; k < 7; k++) {
            y.arrow(k, k, 13 - k);
        }
        y.draw(0);
        due("redraw(4, 21)", y.redraw(4, 21), 0);
        due("count(5), kept", y.count(5), 21);
        due("redraw(4, 20), all but box 10 of layer 1 change places", y.redraw(4, 20), 6);
        due("count(5), drawn", y.count(5), 0);
    }

    private static void moved() {
        by("Promise 8: how many boxes that stood in OLD, and are there, stand in another layer or place");
        RouteLayout x = boxes(16, 4);
        x.draw(0);
        due("redraw(0, 0), none", x.redraw(0, 0), 0);
        x.remove(15);
        due("redraw(0, 0) without the last one", x.redraw(0, 0), 0);
        x.remove(0);
        due("redraw(0, 0) without the first one", x.redraw(0, 0), 14);
        x.box(0, 4);
        due("redraw(0, 0), a new one at the end", x.redraw(0, 0), 0);
        due("at(0, 1)", x.at(0, 1), 14);
        x.pin(0, 8);
        due("redraw(0, 0), in another layer", x.redraw(0, 0), 1);
        x.pin(0, 7);
        due("redraw(0, 0), in another layer at the same place", x.redraw(0, 0), 1);
        x.remove(0);
        x.box(0, 50);
        x.pin(0, 7);
        due("redraw(0, 0), removed and there again", x.redraw(0, 0), 0);
        for (int id = 0; id < 15; id++) {
            x.pin(id, 6);
        }
        due("redraw(0, 0), all in another layer", x.redraw(0, 0), 15);
    }

    private static void widthAlone() {
        by("Promise 8: another layer or place, not another x");
        RouteLayout x = boxes(3, 4);
        x.draw(0);
        x.box(0, 50);
        due("redraw(0, 0)", x.redraw(0, 0), 0);
        due("at(1, 2)", x.at(1, 2), 54);
    }

    public static void main(String[] args) {
        noBoxes();
        ownState();
        boxAgain();
        boxMadeAgain();
        allArrowsGo();
        otherArrowsStay();
        removeToTheLast();
        inPlace();
        ends();
        allThere();
        allDeep();
        dropEdges();
        pinEdges();
        pinNotThere();
        drawEdges();
        drawNothing();
        contradictedFirst();
        contradictedLater();
        redrawEdges();
        redrawWithoutOld();
        redrawRounds();
        moved();
        widthAlone();
        end();
    }
}
