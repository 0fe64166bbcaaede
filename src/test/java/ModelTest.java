import java.util.Random;
import java.util.function.LongSupplier;

/**
 * Long runs of calls by chance (always the same ones), on RouteLayout and on Model at once:
 * every answer and every exception must be the same.
 */
public final class ModelTest {
    private static final int RUNS = 1500;
    private static final int CALLS = 512;
    private static final int SHOWN = 20;
    private static int wrong = 0;

    private RouteLayout layout = new RouteLayout();
    private Model model = new Model();
    private final Random random;
    private final int run;
    private final int boxes;
    private final int arrows;
    private final boolean pinsOften;
    private int calls = 0;
    private int wrongHere = 0;

    private ModelTest(int run) {
        this.run = run;
        random = new Random(run);
        boxes = 2 + random.nextInt(15);
        arrows = 1 + random.nextInt(24);
        pinsOften = random.nextInt(4) == 0;
    }

    private static String answer(LongSupplier call) {
        try {
            return Long.toString(call.getAsLong());
        } catch (RuntimeException e) {
            return "throws." + e.getClass().getSimpleName();
        }
    }

    private String due(String call, LongSupplier got, LongSupplier want) {
        String is = answer(got);
        String should = answer(want);
        calls++;
        if (!is.equals(should)) {
            wrong++;
            wrongHere++;
            if (wrong <= SHOWN) {
                System.out.println("run " + run + ", call " + calls + ": " + call + " answered " + is
                    + ", due is " + should);
            }
        }
        return should;
    }

    private int near(int least, int most) {
        if (random.nextInt(60) == 0) {
            int[] odd = {least - 1, most + 1, -1, 1000, Integer.MIN_VALUE, Integer.MAX_VALUE};
            return odd[random.nextInt(odd.length)];
        }
        return least + random.nextInt(most - least + 1);
    }

    private void box() {
        int id = near(0, boxes - 1);
        int width = near(1, random.nextBoolean() ? 50 : 6);
        due("box(" + id + ", " + width + ")",
            () -> { layout.box(id, width); return 0; }, () -> { model.box(id, width); return 0; });
    }

    private void remove() {
        int id = near(0, 15);
        due("remove(" + id + ")", () -> layout.remove(id) ? 1 : 0, () -> model.remove(id) ? 1 : 0);
    }

    private void arrow() {
        int a = near(0, arrows - 1);
        int from = near(0, boxes - 1);
        int to = near(0, boxes - 1);
        due("arrow(" + a + ", " + from + ", " + to + ")",
            () -> { layout.arrow(a, from, to); return 0; }, () -> { model.arrow(a, from, to); return 0; });
    }

    private void drop() {
        int a = near(0, 23);
        due("drop(" + a + ")", () -> layout.drop(a) ? 1 : 0, () -> model.drop(a) ? 1 : 0);
    }

    private void pin() {
        int id = near(0, boxes - 1);
        int layer = random.nextInt(3) == 0 ? -1 : near(0, 8);
        due("pin(" + id + ", " + layer + ")",
            () -> { layout.pin(id, layer); return 0; }, () -> { model.pin(id, layer); return 0; });
    }

    private void unpinAll() {
        for (int id = 0; id < boxes; id++) {
            int b = id;
            due("pin(" + b + ", -1)",
                () -> { layout.pin(b, -1); return 0; }, () -> { model.pin(b, -1); return 0; });
        }
    }

    private String draw() {
        int rounds = near(0, 4);
        return due("draw(" + rounds + ")", () -> layout.draw(rounds) ? 1 : 0, () -> model.draw(rounds) ? 1 : 0);
    }

    private String redraw() {
        int rounds = near(0, 4);
        int tolerance = random.nextInt(3) == 0 ? near(0, 100000) : near(0, 6);
        return due("redraw(" + rounds + ", " + tolerance + ")",
            () -> layout.redraw(rounds, tolerance), () -> model.redraw(rounds, tolerance));
    }

    private void two(String name, int p, int q) {
        String call = name + "(" + p + ", " + q + ")";
        switch (name) {
            case "at" -> due(call, () -> layout.at(p, q), () -> model.at(p, q));
            case "item" -> due(call, () -> layout.item(p, q), () -> model.item(p, q));
            default -> due(call, () -> layout.between(p, q), () -> model.between(p, q));
        }
    }

    private void piece(int a, int layer, int what) {
        due("piece(" + a + ", " + layer + ", " + what + ")",
            () -> layout.piece(a, layer, what), () -> model.piece(a, layer, what));
    }

    private void count(int what) {
        due("count(" + what + ")", () -> layout.count(what), () -> model.count(what));
    }

    private void reversed(int a) {
        due("reversed(" + a + ")", () -> layout.reversed(a), () -> model.reversed(a));
    }

    private void ask() {
        switch (random.nextInt(6)) {
            case 0 -> two("at", near(0, 15), near(0, 2));
            case 1 -> two("item", near(0, 9), near(0, 12));
            case 2 -> two("between", near(0, 9), near(0, 1));
            case 3 -> piece(near(0, 23), near(0, 9), near(0, 2));
            case 4 -> count(near(0, 7));
            default -> reversed(near(0, 23));
        }
    }

    /** Everything that can be told now, whatever the number of calls. */
    private void askAll() {
        for (int what = -1; what <= 8; what++) {
            count(what);
        }
        for (int id = 0; id < 16; id++) {
            for (int what = 0; what < 3; what++) {
                two("at", id, what);
            }
        }
        int layers = Math.max(model.count(3), 1);
        for (int layer = -1; layer <= layers; layer++) {
            two("between", layer, 0);
            two("between", layer, 1);
            for (int place = -1; place == -1 || model.item(layer, place) >= 0; place++) {
                two("item", layer, place);
                two("item", layer, place + 1);
            }
        }
        for (int a = 0; a < 24; a++) {
            reversed(a);
            for (int layer = -1; layer <= layers; layer++) {
                for (int what = 0; what < 3; what++) {
                    piece(a, layer, what);
                }
            }
        }
    }

    private void change() {
        switch (random.nextInt(16)) {
            case 0, 1, 2 -> box();
            case 3 -> {
                if (random.nextInt(3) == 0) {
                    remove();
                }
            }
            case 4, 5 -> {
                if (random.nextInt(3) == 0 || pinsOften) {
                    pin();
                }
            }
            case 6 -> drop();
            default -> arrow();
        }
    }

    private void go() {
        for (int id = 0; id < boxes; id++) {
            box();
        }
        while (calls < CALLS && wrongHere == 0) {
            for (int k = random.nextInt(12); k > 0; k--) {
                change();
            }
            String answer = random.nextBoolean() ? draw() : redraw();
            if (answer.equals("0") && model.count(3) < 0 || answer.equals("-1")) {
                unpinAll();
            }
            for (int k = 0; k < 20; k++) {
                ask();
            }
            if (random.nextInt(12) == 0) {
                int before = calls;
                askAll();
                calls = before;
            }
        }
        askAll();
    }

    public static void main(String[] args) {
        for (int run = 0; run < RUNS; run++) {
            new ModelTest(run).go();
        }
        System.out.println(wrong == 0 ? "all answers are as the model's" : wrong + " answers are not as the model's");
        if (wrong != 0) {
            System.exit(1);
        }
    }
}
