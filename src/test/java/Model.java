import java.util.ArrayList;
import java.util.Collections;
import java.util.Comparator;
import java.util.HashMap;
import java.util.LinkedHashMap;
import java.util.List;
import java.util.Map;
import java.util.TreeMap;

/**
 * The document once more, written word by word and without regard to speed, as a measure for
 * RouteLayout. Items are named as item() names them. Nothing here is shared with the class.
 */
final class Model {
    private static final class Arrow {
        final int from;
        final int to;

        Arrow(int from, int to) {
            this.from = from;
            this.to = to;
        }
    }

    /** A piece between two layers: its arrow and its items. */
    private static final class Piece {
        final int arrow;
        final int upper;
        final int lower;

        Piece(int arrow, int upper, int lower) {
            this.arrow = arrow;
            this.upper = upper;
            this.lower = lower;
        }
    }

    private final TreeMap<Integer, Integer> widths = new TreeMap<>();
    private final TreeMap<Integer, Integer> pins = new TreeMap<>();
    private final TreeMap<Integer, Arrow> arrows = new TreeMap<>();

    private List<List<Integer>> old = new ArrayList<>();
    private boolean told = false;
    private Map<Integer, Integer> layers = new HashMap<>();
    private List<Map<Integer, Integer>> xs = new ArrayList<>();

    private static void need(boolean right) {
        if (!right) {
            throw new IllegalArgumentException("the document refuses it");
        }
    }

    private static boolean within(int value, int least, int most) {
        return least <= value && value <= most;
    }

    void box(int id, int width) {
        need(within(id, 0, 15) && within(width, 1, 50));
        widths.put(id, width);
        told = false;
    }

    boolean remove(int id) {
        need(within(id, 0, 15));
        if (!widths.containsKey(id)) {
            return false;
        }
        widths.remove(id);
        pins.remove(id);
        arrows.values().removeIf(arrow -> arrow.from == id || arrow.to == id);
        told = false;
        return true;
    }

    void arrow(int a, int from, int to) {
        need(within(a, 0, 23) && widths.containsKey(from) && widths.containsKey(to) && from != to);
        arrows.put(a, new Arrow(from, to));
        told = false;
    }

    boolean drop(int a) {
        need(within(a, 0, 23));
        boolean was = arrows.remove(a) != null;
        if (was) {
            told = false;
        }
        return was;
    }

    void pin(int id, int layer) {
        need(widths.containsKey(id) && within(layer, -1, 8));
        if (layer == -1) {
            pins.remove(id);
        } else {
            pins.put(id, layer);
        }
        told = false;
    }

    boolean draw(int rounds) {
        need(within(rounds, 0, 4));
        told = false;
        if (!settle()) {
            return false;
        }
        tell(drawing(rounds));
        return true;
    }

    int redraw(int rounds, int tolerance) {
        need(within(rounds, 0, 4) && within(tolerance, 0, 100000));
        told = false;
        if (!settle()) {
            return -1;
        }
        List<List<Integer>> before = old;
        List<List<Integer>> kept = keptOrder();
        List<List<Integer>> drawn = drawing(rounds);
        tell(crossings(kept) > crossings(drawn) + tolerance ? drawn : kept);
        int moved = 0;
        for (int id : widths.keySet()) {
            String was = standing(before, id);
            if (was != null && !was.equals(standing(old, id))) {
                moved++;
            }
        }
        return moved;
    }

    int at(int id, int what) {
        need(within(id, 0, 15) && within(what, 0, 2));
        if (!told || !widths.containsKey(id)) {
            return -1;
        }
        int layer = layers.get(id);
        return what == 0 ? layer : what == 1 ? old.get(layer).indexOf(id) : xs.get(layer).get(id);
    }

    int reversed(int a) {
        need(within(a, 0, 23));
        return arrows.containsKey(a) ? (isReversed(a) ? 1 : 0) : -1;
    }

    int item(int layer, int place) {
        if (!told || !within(layer, 0, old.size() - 1) || !within(place, 0, old.get(layer).size() - 1)) {
            return -1;
        }
        return old.get(layer).get(place);
    }

    int piece(int a, int layer, int what) {
        need(within(a, 0, 23) && within(what, 0, 2));
        if (!told || !within(layer, 0, old.size() - 2)) {
            return -1;
        }
        for (Piece piece : pieces(layer)) {
            if (piece.arrow == a) {
                return what == 0 ? middle(layer, piece.upper)
                    : what == 1 ? middle(layer + 1, piece.lower)
                    : tracks(layer).getOrDefault(a, -1);
            }
        }
        return -1;
    }

    int between(int layer, int what) {
        need(within(what, 0, 1));
        if (!told || !within(layer, 0, old.size() - 2)) {
            return -1;
        }
        return what == 0 ? crossings(old, layer) : trackTotal(layer);
    }

    int count(int what) {
        if (what == 0) {
            return widths.size();
        }
        if (what == 1) {
            return arrows.size();
        }
        if (what == 2) {
            return (int) arrows.keySet().stream().filter(this::isReversed).count();
        }
        if (!told || !within(what, 3, 7)) {
            return -1;
        }
        if (what == 3) {
            return old.size();
        }
        if (what == 4) {
            return old.stream().mapToInt(List::size).sum();
        }
        if (what == 5) {
            return crossings(old);
        }
        int most = 0;
        for (int layer = 0; layer < old.size(); layer++) {
            if (what == 7) {
                most = Math.max(most, layer + 1 < old.size() ? trackTotal(layer) : 0);
                continue;
            }
            for (int item : old.get(layer)) {
                most = Math.max(most, xs.get(layer).get(item) + width(item));
            }
        }
        return most;
    }

    private boolean isReversed(int a) {
        List<Arrow> kept = new ArrayList<>();
        boolean reversed = false;
        for (Map.Entry<Integer, Arrow> entry : arrows.headMap(a, true).entrySet()) {
            Arrow arrow = entry.getValue();
            reversed = leads(kept, arrow.to, arrow.from, 0);
            if (!reversed) {
                kept.add(arrow);
            }
        }
        return reversed;
    }

    private static boolean leads(List<Arrow> kept, int start, int goal, int depth) {
        if (start == goal) {
            return true;
        }
        if (depth > 16) {
            return false;
        }
        for (Arrow arrow : kept) {
            if (arrow.from == start && leads(kept, arrow.to, goal, depth + 1)) {
                return true;
            }
        }
        return false;
    }

    private int upper(int a) {
        return isReversed(a) ? arrows.get(a).to : arrows.get(a).from;
    }

    private int lower(int a) {
        return isReversed(a) ? arrows.get(a).from : arrows.get(a).to;
    }

    private boolean settle() {
        Map<Integer, Integer> uppers = new TreeMap<>();
        Map<Integer, Integer> lowers = new TreeMap<>();
        for (int a : arrows.keySet()) {
            uppers.put(a, upper(a));
            lowers.put(a, lower(a));
        }
        layers = new HashMap<>();
        while (layers.size() < widths.size()) {
            for (int id : widths.keySet()) {
                int least = 0;
                boolean known = !layers.containsKey(id);
                for (int a : arrows.keySet()) {
                    if (lowers.get(a) == id) {
                        known = known && layers.containsKey(uppers.get(a));
                        least = known ? Math.max(least, layers.get(uppers.get(a)) + 1) : least;
                    }
                }
                if (known) {
                    if (pins.getOrDefault(id, least) < least) {
                        return false;
                    }
                    layers.put(id, pins.getOrDefault(id, least));
                }
            }
        }
        return true;
    }

    private List<List<Integer>> firstOrder() {
        int depth = widths.isEmpty() ? 0 : Collections.max(layers.values()) + 1;
        List<List<Integer>> order = new ArrayList<>();
        for (int layer = 0; layer < depth; layer++) {
            List<Integer> row = new ArrayList<>();
            for (int id : widths.keySet()) {
                if (layers.get(id) == layer) {
                    row.add(id);
                }
            }
            for (int a : arrows.keySet()) {
                if (layers.get(upper(a)) < layer && layer < layers.get(lower(a))) {
                    row.add(100 + a);
                }
            }
            order.add(row);
        }
        return order;
    }

    private List<List<Integer>> keptOrder() {
        List<List<Integer>> order = new ArrayList<>();
        for (List<Integer> first : firstOrder()) {
            List<Integer> row = new ArrayList<>();
            if (order.size() < old.size()) {
                row.addAll(old.get(order.size()));
                row.retainAll(first);
            }
            for (int item : first) {
                if (!row.contains(item)) {
                    row.add(item);
                }
            }
            order.add(row);
        }
        return order;
    }

    /** The pieces between a layer and the next one. */
    private List<Piece> pieces(int layer) {
        List<Piece> pieces = new ArrayList<>();
        for (int a : arrows.keySet()) {
            int top = layers.get(upper(a));
            int bottom = layers.get(lower(a));
            if (top <= layer && layer < bottom) {
                int from = top == layer ? upper(a) : 100 + a;
                int to = bottom == layer + 1 ? lower(a) : 100 + a;
                pieces.add(new Piece(a, from, to));
            }
        }
        return pieces;
    }

    private int crossings(List<List<Integer>> order) {
        int sum = 0;
        for (int layer = 0; layer + 1 < order.size(); layer++) {
            sum += crossings(order, layer);
        }
        return sum;
    }

    private int crossings(List<List<Integer>> order, int layer) {
        if (layer < 0 || layer + 1 >= order.size()) {
            return 0;
        }
        List<Integer> above = order.get(layer);
        List<Integer> below = order.get(layer + 1);
        List<Piece> pieces = pieces(layer);
        int crossings = 0;
        for (Piece p : pieces) {
            for (Piece q : pieces) {
                if (above.indexOf(p.upper) < above.indexOf(q.upper)
                    && below.indexOf(p.lower) > below.indexOf(q.lower)) {
                    crossings++;
                }
            }
        }
        return crossings;
    }

    private List<List<Integer>> drawing(int rounds) {
        List<List<Integer>> order = firstOrder();
        for (int round = 0; round < rounds; round++) {
            for (int layer = 1; layer < order.size(); layer++) {
                step(order, layer, -1);
            }
            for (int layer = order.size() - 2; layer >= 0; layer--) {
                step(order, layer, 1);
            }
        }
        for (int layer = 1; layer < order.size(); layer++) {
            orderExactly(order, layer);
        }
        return order;
    }

    /** An item's neighbours in the layer above (side -1) or below (side 1). */
    private List<Integer> neighbours(int layer, int item, int side) {
        List<Integer> neighbours = new ArrayList<>();
        for (Piece piece : pieces(side < 0 ? layer - 1 : layer)) {
            if (side < 0 && piece.lower == item) {
                neighbours.add(piece.upper);
            }
            if (side > 0 && piece.upper == item) {
                neighbours.add(piece.lower);
            }
        }
        return neighbours;
    }

    private void step(List<List<Integer>> order, int layer, int side) {
        List<Integer> row = order.get(layer);
        List<Integer> other = order.get(layer + side);
        Map<Integer, Integer> medians = new LinkedHashMap<>();
        for (int item : row) {
            List<Integer> places = new ArrayList<>();
            for (int neighbour : neighbours(layer, item, side)) {
                places.add(other.indexOf(neighbour));
            }
            Collections.sort(places);
            if (!places.isEmpty()) {
                medians.put(item, places.get((places.size() - 1) / 2));
            }
        }
        List<Integer> movers = new ArrayList<>(medians.keySet());
        movers.sort(Comparator.comparing(medians::get));
        List<Integer> next = new ArrayList<>();
        int taken = 0;
        for (int item : row) {
            next.add(medians.containsKey(item) ? movers.get(taken++) : item);
        }
        int before = crossings(order, layer - 1) + crossings(order, layer);
        order.set(layer, next);
        if (crossings(order, layer - 1) + crossings(order, layer) > before) {
            order.set(layer, row);
        }
    }

    private void orderExactly(List<List<Integer>> order, int layer) {
        List<Integer> row = order.get(layer);
        if (row.size() > 6) {
            return;
        }
        List<List<Integer>> all = new ArrayList<>();
        permute(row, new ArrayList<>(), all);
        List<Integer> best = null;
        int least = Integer.MAX_VALUE;
        for (List<Integer> one : all) {
            order.set(layer, one);
            int crossings = crossings(order, layer - 1);
            if (crossings < least) {
                least = crossings;
                best = one;
            }
        }
        order.set(layer, best);
    }

    private static void permute(List<Integer> row, List<Integer> begun, List<List<Integer>> all) {
        if (begun.size() == row.size()) {
            all.add(new ArrayList<>(begun));
        }
        for (Integer item : row) {
            if (!begun.contains(item)) {
                begun.add(item);
                permute(row, begun, all);
                begun.remove(begun.size() - 1);
            }
        }
    }

    private void tell(List<List<Integer>> order) {
        old = order;
        told = true;
        xs = new ArrayList<>();
        for (List<Integer> row : order) {
            Map<Integer, Integer> packed = new HashMap<>();
            int x = 0;
            for (int item : row) {
                packed.put(item, x);
                x += width(item) + 4;
            }
            xs.add(packed);
        }
        for (int pass = 1; pass <= 4; pass++) {
            for (int k = 0; k < order.size(); k++) {
                boolean down = pass % 2 == 1;
                straighten(down ? k : order.size() - 1 - k, down ? -1 : 1);
            }
        }
        int least = xs.stream().flatMap(row -> row.values().stream()).min(Integer::compare).orElse(0);
        for (Map<Integer, Integer> row : xs) {
            row.replaceAll((item, x) -> x - least);
        }
    }

    private void straighten(int layer, int side) {
        Integer ahead = null;
        for (int item : old.get(layer)) {
            List<Integer> neighbours = neighbours(layer, item, side);
            double sum = 0;
            for (int neighbour : neighbours) {
                sum += middle(layer + side, neighbour);
            }
            int x = neighbours.isEmpty() ? xs.get(layer).get(item)
                : (int) Math.floor(sum / neighbours.size()) - width(item) / 2;
            if (ahead != null) {
                x = Math.max(x, xs.get(layer).get(ahead) + width(ahead) + 4);
            }
            xs.get(layer).put(item, x);
            ahead = item;
        }
    }

    private int width(int item) {
        return item >= 100 ? 1 : widths.get(item);
    }

    private int middle(int layer, int item) {
        return xs.get(layer).get(item) + width(item) / 2;
    }

    /** The tracks of the arrows' level parts between a layer and the next one. */
    private Map<Integer, Integer> tracks(int layer) {
        List<int[]> parts = new ArrayList<>();
        for (Piece piece : pieces(layer)) {
            int p = middle(layer, piece.upper);
            int q = middle(layer + 1, piece.lower);
            if (p != q) {
                parts.add(new int[] {Math.min(p, q), Math.max(p, q), piece.arrow});
            }
        }
        parts.sort((p, q) -> p[0] != q[0] ? p[0] - q[0] : p[2] - q[2]);
        Map<Integer, Integer> tracks = new HashMap<>();
        for (int[] part : parts) {
            int track = 0;
            while (!isFree(parts, tracks, track, part[0])) {
                track++;
            }
            tracks.put(part[2], track);
        }
        return tracks;
    }

    private static boolean isFree(List<int[]> parts, Map<Integer, Integer> tracks, int track, int left) {
        for (int[] part : parts) {
            if (tracks.getOrDefault(part[2], -1) == track && part[1] >= left) {
                return false;
            }
        }
        return true;
    }

    private int trackTotal(int layer) {
        return tracks(layer).values().stream().mapToInt(track -> track + 1).max().orElse(0);
    }

    private static String standing(List<List<Integer>> order, int id) {
        for (int layer = 0; layer < order.size(); layer++) {
            if (order.get(layer).contains(id)) {
                return layer + " " + order.get(layer).indexOf(id);
            }
        }
        return null;
    }
}
