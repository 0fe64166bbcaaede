/** What the tests with answers worked out by hand share: they say what is due and count what is not so. */
abstract class Answers {
    static final int LOW = Integer.MIN_VALUE;
    static final int HIGH = Integer.MAX_VALUE;
    private static int wrong = 0;
    private static String sentence = "";

    interface Call {
        void run();
    }

    /** What the answers that follow are due by. */
    static void by(String words) {
        sentence = words;
    }

    static void due(String call, long got, long want) {
        if (got != want) {
            complain(call + " answered " + got + ", due is " + want);
        }
    }

    static void due(String call, boolean got, boolean want) {
        due(call, got ? 1 : 0, want ? 1 : 0);
    }

    static void due(String call, String got, String want) {
        if (!got.equals(want)) {
            complain(call + " answered " + got + ", due is " + want);
        }
    }

    static void refused(String call, Call made) {
        due(call, thrownBy(made), "java.lang.IllegalArgumentException");
    }

    static void taken(String call, Call made) {
        due(call, thrownBy(made), "nothing thrown");
    }

    private static String thrownBy(Call made) {
        try {
            made.run();
        } catch (RuntimeException e) {
            return e.getClass().getName();
        }
        return "nothing thrown";
    }

    private static void complain(String text) {
        wrong++;
        System.out.println(sentence + ": " + text);
    }

    static void end() {
        System.out.println(wrong == 0 ? "all answers are as due" : wrong + " answers are not as due");
        if (wrong != 0) {
            System.exit(1);
        }
    }

    /** Boxes 0, 1, .. of one width. */
    static RouteLayout boxes(int count, int width) {
        RouteLayout x = new RouteLayout();
        for (int id = 0; id < count; id++) {
            x.box(id, width);
        }
        return x;
    }

    /** Arrows 0, 1, .. between the boxes of the pairs. */
    static void arrows(RouteLayout x, int... ends) {
        for (int k = 0; k + 1 < ends.length; k += 2) {
            x.arrow(k / 2, ends[k], ends[k + 1]);
        }
    }

    /** Boxes 0 .. 3 with a reversed arrow (2), dummies (of 2, 3 and 4) and a pinned box (3); nothing is drawn. */
    static RouteLayout sample() {
        RouteLayout x = new RouteLayout();
        for (int id = 0; id < 4; id++) {
            x.box(id, 4 + 3 * id);
        }
        arrows(x, 0, 1, 1, 2, 2, 0, 0, 2, 0, 3);
        x.pin(3, 2);
        return x;
    }

    static void dueRow(RouteLayout x, int layer, int... items) {
        for (int place = 0; place < items.length; place++) {
            due("item(" + layer + ", " + place + ")", x.item(layer, place), items[place]);
        }
        due("item(" + layer + ", " + items.length + ")", x.item(layer, items.length), -1);
    }

    /** Nothing is told of a drawing: of boxes 0 .. 3, of arrows 0 .. 4, of layers 0 .. 2. */
    static void dueUntold(RouteLayout x) {
        for (int what = 3; what <= 7; what++) {
            due("count(" + what + ") untold", x.count(what), -1);
        }
        for (int what = 0; what <= 2; what++) {
            for (int id = 0; id < 4; id++) {
                due("at(" + id + ", " + what + ") untold", x.at(id, what), -1);
            }
            for (int a = 0; a < 5; a++) {
                due("piece(" + a + ", 0, " + what + ") untold", x.piece(a, 0, what), -1);
            }
        }
        for (int layer = 0; layer < 3; layer++) {
            due("item(" + layer + ", 0) untold", x.item(layer, 0), -1);
            due("between(" + layer + ", 0) untold", x.between(layer, 0), -1);
            due("between(" + layer + ", 1) untold", x.between(layer, 1), -1);
        }
    }

    /** All that a drawing of boxes 0 .. 4 and arrows 0 .. 5 in at most three layers tells, and the counts. */
    static String everything(RouteLayout x) {
        StringBuilder all = new StringBuilder();
        for (int what = 0; what <= 7; what++) {
            all.append(what == 0 ? "counts" : "").append(' ').append(x.count(what));
        }
        for (int id = 0; id < 5; id++) {
            all.append("; box ").append(id);
            for (int what = 0; what <= 2; what++) {
                all.append(' ').append(x.at(id, what));
            }
        }
        for (int a = 0; a < 6; a++) {
            all.append("; arrow ").append(a).append(' ').append(x.reversed(a));
            for (int layer = 0; layer < 2; layer++) {
                for (int what = 0; what <= 2; what++) {
                    all.append(' ').append(x.piece(a, layer, what));
                }
            }
        }
        for (int layer = 0; layer < 3; layer++) {
            all.append("; layer ").append(layer);
            for (int place = 0; place < 5; place++) {
                all.append(' ').append(x.item(layer, place));
            }
            all.append(" between ").append(x.between(layer, 0)).append(' ').append(x.between(layer, 1));
        }
        return all.toString();
    }
}
