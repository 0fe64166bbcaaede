import java.util.ArrayList;
import java.util.List;
import java.util.function.Consumer;

/**
 * Every call that is refused, at each of its wrong arguments: it throws, what is told behind it is what was
 * told ahead of it, and later drawings are those of an object on which it was never called.
 */
public final class RefusedTest extends Answers {
    private static final class Wrong {
        final String call;
        final Consumer<RouteLayout> made;

        Wrong(String call, Consumer<RouteLayout> made) {
            this.call = call;
            this.made = made;
        }
    }

    private static final List<Wrong> WRONG = new ArrayList<>();

    private static void add(String call, Consumer<RouteLayout> made) {
        WRONG.add(new Wrong(call, made));
    }

    private static void addBoxes() {
        for (int id : new int[] {-1, 16, LOW, HIGH}) {
            add("box(" + id + ", 4)", x -> x.box(id, 4));
            add("remove(" + id + ")", x -> x.remove(id));
            add("arrow(0, " + id + ", 3)", x -> x.arrow(0, id, 3));
            add("arrow(0, 3, " + id + ")", x -> x.arrow(0, 3, id));
            add("pin(" + id + ", 1)", x -> x.pin(id, 1));
            add("at(" + id + ", 0)", x -> x.at(id, 0));
        }
        for (int width : new int[] {0, 51, -1, LOW, HIGH}) {
            add("box(0, " + width + ")", x -> x.box(0, width));
            add("box(4, " + width + ")", x -> x.box(4, width));
        }
        for (int layer : new int[] {-2, 9, LOW, HIGH}) {
            add("pin(3, " + layer + ")", x -> x.pin(3, layer));
        }
        for (int layer : new int[] {-2, -1, 0, 8, 9}) {
            add("pin(4, " + layer + "), that isn't there", x -> x.pin(4, layer));
        }
    }

    private static void addArrows() {
        for (int a : new int[] {-1, 24, LOW, HIGH}) {
            add("arrow(" + a + ", 0, 1)", x -> x.arrow(a, 0, 1));
            add("drop(" + a + ")", x -> x.drop(a));
            add("reversed(" + a + ")", x -> x.reversed(a));
            add("piece(" + a + ", 0, 0)", x -> x.piece(a, 0, 0));
        }
        for (int a : new int[] {0, 4, 5, 23}) {
            add("arrow(" + a + ", 1, 1)", x -> x.arrow(a, 1, 1));
            add("arrow(" + a + ", 4, 4), that isn't there", x -> x.arrow(a, 4, 4));
            add("arrow(" + a + ", 0, 4), that isn't there", x -> x.arrow(a, 0, 4));
            add("arrow(" + a + ", 15, 0), that isn't there", x -> x.arrow(a, 15, 0));
        }
    }

    private static void addDrawings() {
        for (int rounds : new int[] {-1, 5, LOW, HIGH}) {
            add("draw(" + rounds + ")", x -> x.draw(rounds));
            add("redraw(" + rounds + ", 0)", x -> x.redraw(rounds, 0));
        }
        for (int tolerance : new int[] {-1, 100001, LOW, HIGH}) {
            add("redraw(0, " + tolerance + ")", x -> x.redraw(0, tolerance));
            add("redraw(4, " + tolerance + ")", x -> x.redraw(4, tolerance));
        }
    }

    private static void addWhats() {
        for (int what : new int[] {-1, 3, LOW, HIGH}) {
            add("at(0, " + what + ")", x -> x.at(0, what));
            add("at(4, " + what + "), that isn't there", x -> x.at(4, what));
            add("piece(0, 0, " + what + ")", x -> x.piece(0, 0, what));
            add("piece(5, 0, " + what + "), that isn't there", x -> x.piece(5, 0, what));
        }
        for (int what : new int[] {-1, 2, LOW, HIGH}) {
            add("between(0, " + what + ")", x -> x.between(0, what));
            add("between(9, " + what + ")", x -> x.between(9, what));
        }
    }

    /** What is told ahead of a change and behind it, and what is held without a drawing. */
    private static String later(RouteLayout x) {
        StringBuilder all = new StringBuilder(everything(x));
        all.append("\nredrawn ").append(x.redraw(1, 0)).append(' ').append(everything(x));
        all.append("\nremoved ").append(x.remove(1)).append(" drawn ").append(x.draw(2)).append(' ');
        return all.append(everything(x)).toString();
    }

    private static void whileTold(Wrong wrong, String due) {
        RouteLayout x = sample();
        x.draw(2);
        refused(wrong.call, () -> wrong.made.accept(x));
        due("everything behind " + wrong.call, later(x), due);
    }

    private static void whileUntold(Wrong wrong, String due) {
        RouteLayout x = sample();
        refused(wrong.call + " without a drawing", () -> wrong.made.accept(x));
        dueUntold(x);
        due("everything behind " + wrong.call + " without a drawing", later(x), due);
    }

    /** A refused call leaves OLD as it is: boxes 2 and 3 stood in layer 2 there, and stand in layer 1 now. */
    private static void whileOld(Wrong wrong) {
        RouteLayout x = sample();
        x.draw(2);
        x.pin(3, 1);
        x.drop(2);
        x.remove(1);
        refused(wrong.call + " behind changes", () -> wrong.made.accept(x));
        dueUntold(x);
        due("redraw(0, 0) behind " + wrong.call, x.redraw(0, 0), 2);
    }

    public static void main(String[] args) {
        addBoxes();
        addArrows();
        addDrawings();
        addWhats();
        RouteLayout drawn = sample();
        drawn.draw(2);
        String dueTold = later(drawn);
        String dueUntold = later(sample());
        by("Promise 2: IllegalArgumentException (also below)");
        for (Wrong wrong : WRONG) {
            whileTold(wrong, dueTold);
            whileUntold(wrong, dueUntold);
            whileOld(wrong);
        }
        System.out.println(WRONG.size() + " wrong calls");
        end();
    }
}
