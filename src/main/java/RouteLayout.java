import java.util.Arrays;

/**
 * Draws directed routes in layers. The document ../shared/DOC.md says what each call does;
 * the words used here (layers, dummies, pieces, steps, rounds, tracks, ..) are its terms.
 */
public final class RouteLayout {
    private static final int NONE = -1;
    private static final int BOXES = 16;
    private static final int ARROWS = 24;
    private static final int WIDEST = 50;
    private static final int LAST_PIN = 8;
    private static final int MOST_ROUNDS = 4;
    private static final int MOST_TOLERANCE = 100000;

    /** A box pinned to the last layer that a pin may name can have all the others in a chain behind it. */
    private static final int LAYERS = LAST_PIN + BOXES;

    /**
     * Within a layer an item has a code: a box its number, a dummy its arrow's number and BOXES.
     * The first order of a layer is that of its codes.
     */
    private static final int CODES = BOXES + ARROWS;

    /** What the face adds to an arrow's number to name its dummy. */
    private static final int DUMMY_NAME = 100;
    private static final int DUMMY_WIDTH = 1;
    private static final int DISTANCE = 4;
    private static final int PASS_PAIRS = 2;

    /** The most items of a layer that is ordered exactly, and how many sets there are of so many. */
    private static final int EXACT = 6;
    private static final int EXACT_SETS = 64;

    private static final int ABOVE = -1;
    private static final int BELOW = 1;

    private final Net net;
    private final Levels levels;
    private final Crossings crossings;
    private final Starts starts;
    private final Steps steps;
    private final Exact exact;
    private final Spread spread;
    private final Tracks tracks;

    /** OLD; it is also what is told, while something is told. */
    private Order latest;
    private Order drawn;
    private Order kept;
    private boolean told;

    public RouteLayout() {
        net = new Net();
        levels = new Levels(net);
        crossings = new Crossings(levels);
        starts = new Starts(levels);
        steps = new Steps(levels, crossings);
        exact = new Exact(levels);
        spread = new Spread(net, levels);
        tracks = new Tracks(levels, spread);
        latest = new Order();
        drawn = new Order();
        kept = new Order();
        told = false;
    }

    public void box(int id, int width) throws IllegalArgumentException {
        needBoxNumber(id);
        if (width < 1 || width > WIDEST) {
            throw new IllegalArgumentException("no such width");
        }
        net.putBox(id, width);
        told = false;
    }

    public boolean remove(int id) throws IllegalArgumentException {
        needBoxNumber(id);
        if (!net.hasBox(id)) {
            return false;
        }
        net.takeBox(id);
        told = false;
        return true;
    }

    public void arrow(int a, int from, int to) throws IllegalArgumentException {
        needArrowNumber(a);
        needBox(from);
        needBox(to);
        if (from == to) {
            throw new IllegalArgumentException("an arrow leads to another box");
        }
        net.putArrow(a, from, to);
        told = false;
    }

    public boolean drop(int a) throws IllegalArgumentException {
        needArrowNumber(a);
        if (!net.hasArrow(a)) {
            return false;
        }
        net.takeArrow(a);
        told = false;
        return true;
    }

    public void pin(int id, int layer) throws IllegalArgumentException {
        needBox(id);
        if (layer < NONE || layer > LAST_PIN) {
            throw new IllegalArgumentException("no such layer");
        }
        net.putPin(id, layer);
        told = false;
    }

    public boolean draw(int rounds) throws IllegalArgumentException {
        needRounds(rounds);
        told = false;
        if (!levels.settle()) {
            return false;
        }
        makeDrawn(rounds);
        takeDrawn();
        layOutLatest();
        return true;
    }

    public int redraw(int rounds, int tolerance) throws IllegalArgumentException {
        needRounds(rounds);
        if (tolerance < 0 || tolerance > MOST_TOLERANCE) {
            throw new IllegalArgumentException("no such tolerance");
        }
        told = false;
        if (!levels.settle()) {
            return NONE;
        }
        Order old = latest;
        starts.fillKept(kept, old);
        makeDrawn(rounds);
        if (crossings.inAll(kept) - crossings.inAll(drawn) > tolerance) {
            takeDrawn();
        } else {
            takeKept();
        }
        layOutLatest();
        return movedBoxes(old, latest);
    }

    public int at(int id, int what) throws IllegalArgumentException {
        needBoxNumber(id);
        needWhat(what, 2);
        if (!told || !net.hasBox(id)) {
            return NONE;
        }
        int layer = latest.layerOf(id);
        if (what == 0) {
            return layer;
        }
        return what == 1 ? latest.placeOf(layer, id) : spread.xOf(layer, id);
    }

    public int reversed(int a) throws IllegalArgumentException {
        needArrowNumber(a);
        if (!net.hasArrow(a)) {
            return NONE;
        }
        return net.isTurned(a) ? 1 : 0;
    }

    public int item(int layer, int place) {
        if (!told) {
            return NONE;
        }
        int code = latest.codeAt(layer, place);
        return code < BOXES ? code : code - BOXES + DUMMY_NAME;
    }

    public int piece(int a, int layer, int what) throws IllegalArgumentException {
        needArrowNumber(a);
        needWhat(what, 2);
        if (!told || !levels.hasPiece(a, layer)) {
            return NONE;
        }
        if (what == 2) {
            return tracks.trackOf(a, layer);
        }
        return spread.middleOf(layer + what, levels.codeOf(a, layer + what));
    }

    public int between(int layer, int what) throws IllegalArgumentException {
        needWhat(what, 1);
        if (!told || layer < 0 || layer >= latest.depth() - 1) {
            return NONE;
        }
        return what == 0 ? crossings.inGap(latest, layer) : tracks.inGap(layer);
    }

    public int count(int what) {
        switch (what) {
            case 0:
                return net.boxTotal();
            case 1:
                return net.arrowTotal();
            case 2:
                return net.turnedTotal();
            default:
                return told ? countTold(what) : NONE;
        }
    }

    private int countTold(int what) {
        switch (what) {
            case 3:
                return latest.depth();
            case 4:
                return latest.total();
            case 5:
                return crossings.inAll(latest);
            case 6:
                return spread.greatestEnd(latest);
            case 7:
                return tracks.most(latest.depth());
            default:
                return NONE;
        }
    }

    private void makeDrawn(int rounds) {
        starts.fillFirst(drawn);
        for (int round = 0; round < rounds; round++) {
            for (int layer = 1; layer < drawn.depth(); layer++) {
                steps.step(drawn, layer, ABOVE);
            }
            for (int layer = drawn.depth() - 2; layer >= 0; layer--) {
                steps.step(drawn, layer, BELOW);
            }
        }
        exact.orderAll(drawn);
    }

    private void takeDrawn() {
        Order old = latest;
        latest = drawn;
        drawn = old;
    }

    private void takeKept() {
        Order old = latest;
        latest = kept;
        kept = old;
    }

    private void layOutLatest() {
        spread.layOut(latest);
        tracks.layOut(latest.depth());
        told = true;
    }

    private static int movedBoxes(Order old, Order now) {
        int moved = 0;
        for (int b = 0; b < BOXES; b++) {
            int before = old.layerOf(b);
            int after = now.layerOf(b);
            boolean inBoth = before >= 0 && after >= 0;
            if (inBoth && (before != after || old.placeOf(before, b) != now.placeOf(after, b))) {
                moved++;
            }
        }
        return moved;
    }

    private static boolean isBoxNumber(int id) {
        return id >= 0 && id < BOXES;
    }

    private static boolean isArrowNumber(int a) {
        return a >= 0 && a < ARROWS;
    }

    private static boolean isLayer(int layer) {
        return layer >= 0 && layer < LAYERS;
    }

    private static boolean isCode(int code) {
        return code >= 0 && code < CODES;
    }

    private static void needBoxNumber(int id) {
        if (!isBoxNumber(id)) {
            throw new IllegalArgumentException("no such box");
        }
    }

    private void needBox(int id) {
        if (!net.hasBox(id)) {
            throw new IllegalArgumentException("the box is not there");
        }
    }

    private static void needArrowNumber(int a) {
        if (!isArrowNumber(a)) {
            throw new IllegalArgumentException("no such arrow");
        }
    }

    private static void needRounds(int rounds) {
        if (rounds < 0 || rounds > MOST_ROUNDS) {
            throw new IllegalArgumentException("no such number of rounds");
        }
    }

    private static void needWhat(int what, int last) {
        if (what < 0 || what > last) {
            throw new IllegalArgumentException("no such what");
        }
    }

    /** The boxes, the arrows and the pins, and which arrows are reversed. */
    private static final class Net {
        /** 0 where there is no box. */
        private final int[] widths = new int[BOXES];
        private final int[] pins = new int[BOXES];
        /** NONE where there is no arrow. */
        private final int[] froms = new int[ARROWS];
        private final int[] tos = new int[ARROWS];
        private final boolean[] turned = new boolean[ARROWS];
        /** For each box the set, as bits, of the boxes that kept arrows lead to, itself among them. */
        private final int[] reach = new int[BOXES];

        Net() {
            Arrays.fill(pins, NONE);
            Arrays.fill(froms, NONE);
            Arrays.fill(tos, NONE);
        }

        boolean hasBox(int id) {
            return isBoxNumber(id) && widths[id] > 0;
        }

        boolean hasArrow(int a) {
            return isArrowNumber(a) && froms[a] >= 0;
        }

        boolean isTurned(int a) {
            return isArrowNumber(a) && turned[a];
        }

        int widthOf(int code) {
            return code >= 0 && code < BOXES ? widths[code] : DUMMY_WIDTH;
        }

        int pinOf(int id) {
            return isBoxNumber(id) ? pins[id] : NONE;
        }

        int upperOf(int a) {
            if (!hasArrow(a)) {
                return NONE;
            }
            return turned[a] ? tos[a] : froms[a];
        }

        int lowerOf(int a) {
            if (!hasArrow(a)) {
                return NONE;
            }
            return turned[a] ? froms[a] : tos[a];
        }

        void putBox(int id, int width) {
            if (isBoxNumber(id)) {
                widths[id] = width;
            }
        }

        void takeBox(int id) {
            if (!isBoxNumber(id)) {
                return;
            }
            widths[id] = 0;
            pins[id] = NONE;
            for (int a = 0; a < ARROWS; a++) {
                if (froms[a] == id || tos[a] == id) {
                    froms[a] = NONE;
                    tos[a] = NONE;
                }
            }
            breakCycles();
        }

        void putArrow(int a, int from, int to) {
            if (isArrowNumber(a)) {
                froms[a] = from;
                tos[a] = to;
                breakCycles();
            }
        }

        void takeArrow(int a) {
            putArrow(a, NONE, NONE);
        }

        void putPin(int id, int layer) {
            if (isBoxNumber(id)) {
                pins[id] = layer;
            }
        }

        int boxTotal() {
            int total = 0;
            for (int b = 0; b < BOXES; b++) {
                total += widths[b] > 0 ? 1 : 0;
            }
            return total;
        }

        int arrowTotal() {
            int total = 0;
            for (int a = 0; a < ARROWS; a++) {
                total += froms[a] >= 0 ? 1 : 0;
            }
            return total;
        }

        int turnedTotal() {
            int total = 0;
            for (int a = 0; a < ARROWS; a++) {
                total += turned[a] ? 1 : 0;
            }
            return total;
        }

        private void breakCycles() {
            for (int b = 0; b < BOXES; b++) {
                reach[b] = 1 << b;
            }
            for (int a = 0; a < ARROWS; a++) {
                turned[a] = reaches(tos[a], froms[a]);
                if (!turned[a]) {
                    keep(froms[a], tos[a]);
                }
            }
        }

        /** False for the ends of an arrow that is not there. */
        private boolean reaches(int start, int goal) {
            return isBoxNumber(start) && isBoxNumber(goal) && (reach[start] >> goal & 1) != 0;
        }

        private void keep(int from, int to) {
            if (!isBoxNumber(to)) {
                return;
            }
            int more = reach[to];
            for (int b = 0; b < BOXES; b++) {
                if (reaches(b, from)) {
                    reach[b] |= more;
                }
            }
        }
    }

    /** The layers of the boxes when they were settled last, and so where the items of the arrows are. */
    private static final class Levels {
        private final Net net;
        private final int[] layers = new int[BOXES];
        /** The ends of the arrows; NONE where there is no arrow. */
        private final int[] uppers = new int[ARROWS];
        private final int[] lowers = new int[ARROWS];
        private int depth;

        Levels(Net net) {
            this.net = net;
            depth = 0;
            Arrays.fill(uppers, NONE);
            Arrays.fill(lowers, NONE);
        }

        /** False if the pins contradict the arrows. */
        boolean settle() {
            begin();
            // No chain of arrows is longer than the boxes are many.
            for (int pass = 0; pass < BOXES; pass++) {
                if (!lowerOnce()) {
                    break;
                }
            }
            findDepth();
            return !contradicted();
        }

        private void begin() {
            for (int b = 0; b < BOXES; b++) {
                layers[b] = Math.max(net.pinOf(b), 0);
            }
            for (int a = 0; a < ARROWS; a++) {
                uppers[a] = net.upperOf(a);
                lowers[a] = net.lowerOf(a);
            }
        }

        private boolean lowerOnce() {
            boolean changed = false;
            for (int a = 0; a < ARROWS; a++) {
                if (isAgainst(a) && net.pinOf(lowers[a]) < 0) {
                    layers[lowers[a]] = layers[uppers[a]] + 1;
                    changed = true;
                }
            }
            return changed;
        }

        /** Whether the lower end of an arrow is not behind its upper end. */
        private boolean isAgainst(int a) {
            return uppers[a] >= 0 && lowers[a] >= 0 && layers[lowers[a]] <= layers[uppers[a]];
        }

        private boolean contradicted() {
            for (int a = 0; a < ARROWS; a++) {
                if (isAgainst(a)) {
                    return true;
                }
            }
            return false;
        }

        private void findDepth() {
            depth = 0;
            for (int b = 0; b < BOXES; b++) {
                if (net.hasBox(b)) {
                    depth = Math.max(depth, layers[b] + 1);
                }
            }
        }

        int depth() {
            return depth;
        }

        /** The code of the item that an arrow has in a layer; NONE if it has none there. */
        int codeOf(int a, int layer) {
            if (!isArrowNumber(a) || uppers[a] < 0 || lowers[a] < 0) {
                return NONE;
            }
            int top = layers[uppers[a]];
            int bottom = layers[lowers[a]];
            if (layer < top || layer > bottom) {
                return NONE;
            }
            if (layer == top) {
                return uppers[a];
            }
            return layer == bottom ? lowers[a] : BOXES + a;
        }

        boolean hasPiece(int a, int layer) {
            return isLayer(layer) && codeOf(a, layer) >= 0 && codeOf(a, layer + 1) >= 0;
        }

        boolean holds(int layer, int code) {
            if (isBoxNumber(code)) {
                return net.hasBox(code) && layers[code] == layer;
            }
            return isCode(code) && codeOf(code - BOXES, layer) == code;
        }
    }

    /** The items of each layer from left to right. */
    private static final class Order {
        private final int[][] codes = new int[LAYERS][CODES];
        private final int[][] places = new int[LAYERS][CODES];
        private final int[] sizes = new int[LAYERS];
        private final int[] boxLayers = new int[BOXES];
        private int depth;

        Order() {
            depth = 0;
            wipe();
        }

        void beginAnew(int layers) {
            depth = Math.min(layers, LAYERS);
            wipe();
        }

        private void wipe() {
            Arrays.fill(sizes, 0);
            Arrays.fill(boxLayers, NONE);
            for (int layer = 0; layer < LAYERS; layer++) {
                Arrays.fill(places[layer], NONE);
            }
        }

        void append(int layer, int code) {
            if (!isLayer(layer) || !isCode(code) || sizes[layer] >= CODES) {
                return;
            }
            int place = sizes[layer];
            sizes[layer]++;
            put(layer, place, code);
            if (isBoxNumber(code)) {
                boxLayers[code] = layer;
            }
        }

        void put(int layer, int place, int code) {
            if (isLayer(layer) && isCode(code) && place >= 0 && place < sizes[layer]) {
                codes[layer][place] = code;
                places[layer][code] = place;
            }
        }

        int depth() {
            return depth;
        }

        int sizeOf(int layer) {
            return isLayer(layer) ? sizes[layer] : 0;
        }

        int total() {
            int total = 0;
            for (int layer = 0; layer < LAYERS; layer++) {
                total += sizes[layer];
            }
            return total;
        }

        int codeAt(int layer, int place) {
            return isLayer(layer) && place >= 0 && place < sizes[layer] ? codes[layer][place] : NONE;
        }

        int placeOf(int layer, int code) {
            return isLayer(layer) && isCode(code) ? places[layer][code] : NONE;
        }

        int layerOf(int id) {
            return isBoxNumber(id) ? boxLayers[id] : NONE;
        }
    }

    /** The orders that a drawing and a redrawing begin with. */
    private static final class Starts {
        private final Levels levels;

        Starts(Levels levels) {
            this.levels = levels;
        }

        void fillFirst(Order order) {
            order.beginAnew(levels.depth());
            for (int layer = 0; layer < order.depth(); layer++) {
                appendOthers(order, layer);
            }
        }

        void fillKept(Order order, Order old) {
            order.beginAnew(levels.depth());
            for (int layer = 0; layer < order.depth(); layer++) {
                for (int place = 0; place < old.sizeOf(layer); place++) {
                    int code = old.codeAt(layer, place);
                    if (levels.holds(layer, code)) {
                        order.append(layer, code);
                    }
                }
                appendOthers(order, layer);
            }
        }

        private void appendOthers(Order order, int layer) {
            for (int code = 0; code < CODES; code++) {
                if (order.placeOf(layer, code) < 0 && levels.holds(layer, code)) {
                    order.append(layer, code);
                }
            }
        }
    }

    /** The pieces between a layer and the one at a side of it: the places of their ends, by arrows. */
    private static final class Ties {
        private final Levels levels;
        private final int[] heres = new int[ARROWS];
        private final int[] theres = new int[ARROWS];

        Ties(Levels levels) {
            this.levels = levels;
        }

        void load(Order order, int layer, int side) {
            int other = layer + side;
            for (int a = 0; a < ARROWS; a++) {
                int here = levels.codeOf(a, layer);
                int there = levels.codeOf(a, other);
                boolean isPiece = here >= 0 && there >= 0;
                heres[a] = isPiece ? order.placeOf(layer, here) : NONE;
                theres[a] = isPiece ? order.placeOf(other, there) : NONE;
            }
        }

        /** NONE if the arrow has no piece here. */
        int here(int a) {
            return isArrowNumber(a) ? heres[a] : NONE;
        }

        int there(int a) {
            return isArrowNumber(a) ? theres[a] : NONE;
        }
    }

    private static final class Crossings {
        private final Levels levels;
        private final Ties ties;
        private final int[] uppers = new int[ARROWS];
        private final int[] lowers = new int[ARROWS];

        Crossings(Levels levels) {
            this.levels = levels;
            ties = new Ties(levels);
        }

        /** The crossings of a layer and the next one; 0 if one of them is not there. */
        int inGap(Order order, int layer) {
            if (layer < 0 || layer >= levels.depth() - 1) {
                return 0;
            }
            ties.load(order, layer, BELOW);
            int crossings = 0;
            int pieces = 0;
            for (int a = 0; a < ARROWS; a++) {
                if (ties.here(a) >= 0) {
                    uppers[pieces] = ties.here(a);
                    lowers[pieces] = ties.there(a);
                    crossings += crossedBy(pieces);
                    pieces++;
                }
            }
            return crossings;
        }

        private int crossedBy(int newest) {
            int crossings = 0;
            for (int p = 0; p < newest; p++) {
                boolean isLeft = uppers[newest] < uppers[p] && lowers[newest] > lowers[p];
                boolean isRight = uppers[newest] > uppers[p] && lowers[newest] < lowers[p];
                if (isLeft || isRight) {
                    crossings++;
                }
            }
            return crossings;
        }

        int inAll(Order order) {
            int crossings = 0;
            for (int layer = 0; layer < levels.depth() - 1; layer++) {
                crossings += inGap(order, layer);
            }
            return crossings;
        }
    }

    /** The steps by medians. */
    private static final class Steps {
        private final Crossings crossings;
        private final Ties ties;
        private final int[] neighbours = new int[ARROWS];
        /** Those items of a layer that have neighbours: their places and codes as they stand .. */
        private final int[] slots = new int[CODES];
        private final int[] standing = new int[CODES];
        /** .. and ordered by their medians. */
        private final int[] sorted = new int[CODES];
        private final int[] medians = new int[CODES];

        Steps(Levels levels, Crossings crossings) {
            this.crossings = crossings;
            ties = new Ties(levels);
        }

        void step(Order order, int layer, int side) {
            ties.load(order, layer, side);
            int movers = sortMovers(order, layer);
            if (isSorted(movers)) {
                return;
            }
            int before = crossings.inGap(order, layer - 1) + crossings.inGap(order, layer);
            place(order, layer, sorted, movers);
            int after = crossings.inGap(order, layer - 1) + crossings.inGap(order, layer);
            if (after > before) {
                place(order, layer, standing, movers);
            }
        }

        private int sortMovers(Order order, int layer) {
            int movers = 0;
            for (int place = 0; place < order.sizeOf(layer) && movers < CODES; place++) {
                int median = medianAt(place);
                if (median >= 0) {
                    int code = order.codeAt(layer, place);
                    slots[movers] = place;
                    standing[movers] = code;
                    insert(code, median, movers);
                    movers++;
                }
            }
            return movers;
        }

        /** An item goes behind those with the same median, so that they stay as they stood. */
        private void insert(int code, int median, int count) {
            int k = count;
            while (k > 0 && medians[k - 1] > median) {
                medians[k] = medians[k - 1];
                sorted[k] = sorted[k - 1];
                k--;
            }
            medians[k] = median;
            sorted[k] = code;
        }

        /** NONE without neighbours. */
        private int medianAt(int place) {
            int count = 0;
            for (int a = 0; a < ARROWS; a++) {
                if (ties.here(a) == place) {
                    insertNeighbour(ties.there(a), count);
                    count++;
                }
            }
            return count > 0 ? neighbours[(count - 1) / 2] : NONE;
        }

        private void insertNeighbour(int place, int count) {
            int k = count;
            while (k > 0 && neighbours[k - 1] > place) {
                neighbours[k] = neighbours[k - 1];
                k--;
            }
            neighbours[k] = place;
        }

        private boolean isSorted(int movers) {
            for (int k = 0; k < movers; k++) {
                if (standing[k] != sorted[k]) {
                    return false;
                }
            }
            return true;
        }

        private void place(Order order, int layer, int[] codes, int movers) {
            for (int k = 0; k < movers; k++) {
                order.put(layer, slots[k], codes[k]);
            }
        }
    }

    /** What comes at last: small layers in the order with the least crossings with the layer above. */
    private static final class Exact {
        private final Ties ties;
        /** How many crossings it makes if the item at the first place stands ahead of that at the second. */
        private final int[][] costs = new int[EXACT][EXACT];
        /** For each set of places, as bits: the least crossings among their items. */
        private final int[] least = new int[EXACT_SETS];
        private final int[] standing = new int[EXACT];

        Exact(Levels levels) {
            ties = new Ties(levels);
        }

        void orderAll(Order order) {
            for (int layer = 1; layer < order.depth(); layer++) {
                int size = order.sizeOf(layer);
                if (size > 1 && size <= EXACT) {
                    ties.load(order, layer, ABOVE);
                    findCosts();
                    findLeast(size);
                    placeLeast(order, layer, size);
                }
            }
        }

        private void findCosts() {
            for (int i = 0; i < EXACT; i++) {
                Arrays.fill(costs[i], 0);
            }
            for (int a = 0; a < ARROWS; a++) {
                if (isExact(ties.here(a))) {
                    addCosts(ties.here(a), ties.there(a));
                }
            }
        }

        /** A piece from behind is crossed by those from ahead of it, if its item stands ahead of theirs. */
        private void addCosts(int place, int from) {
            for (int a = 0; a < ARROWS; a++) {
                int other = ties.here(a);
                if (isExact(other) && ties.there(a) < from) {
                    costs[place][other]++;
                }
            }
        }

        private static boolean isExact(int place) {
            return place >= 0 && place < EXACT;
        }

        private void findLeast(int size) {
            least[0] = 0;
            for (int set = 1; set < 1 << size && set < EXACT_SETS; set++) {
                least[set] = Integer.MAX_VALUE;
                for (int i = 0; i < size; i++) {
                    if ((set >> i & 1) != 0) {
                        least[set] = Math.min(least[set], costAhead(i, set, size));
                    }
                }
            }
        }

        /** The least crossings among the items of a set if one of them stands ahead of the others. */
        private int costAhead(int ahead, int set, int size) {
            int others = set & ~(1 << ahead);
            int cost = least[others];
            for (int j = 0; j < size; j++) {
                if ((others >> j & 1) != 0) {
                    cost += costs[ahead][j];
                }
            }
            return cost;
        }

        private void placeLeast(Order order, int layer, int size) {
            for (int i = 0; i < size; i++) {
                standing[i] = order.codeAt(layer, i);
            }
            int set = (1 << size) - 1;
            for (int place = 0; place < size; place++) {
                int next = firstOfLeast(set, size);
                if (next >= 0) {
                    order.put(layer, place, standing[next]);
                    set &= ~(1 << next);
                }
            }
        }

        /** Of several items that can be ahead, the one that stood first, as the first order begins with it. */
        private int firstOfLeast(int set, int size) {
            for (int i = 0; i < size; i++) {
                if ((set >> i & 1) != 0 && costAhead(i, set, size) == least[set]) {
                    return i;
                }
            }
            return NONE;
        }
    }

    /** The x of items, by their layers and codes. */
    private static final class Spread {
        private final Net net;
        private final Levels levels;
        private final int[][] xs = new int[LAYERS][CODES];

        Spread(Net net, Levels levels) {
            this.net = net;
            this.levels = levels;
        }

        void layOut(Order order) {
            for (int layer = 0; layer < order.depth(); layer++) {
                packLeft(order, layer);
            }
            for (int pair = 0; pair < PASS_PAIRS; pair++) {
                for (int layer = 0; layer < order.depth(); layer++) {
                    straighten(order, layer, ABOVE);
                }
                for (int layer = order.depth() - 1; layer >= 0; layer--) {
                    straighten(order, layer, BELOW);
                }
            }
            moveLeft(order, leastX(order));
        }

        private void packLeft(Order order, int layer) {
            int x = 0;
            for (int place = 0; place < order.sizeOf(layer); place++) {
                int code = order.codeAt(layer, place);
                setX(layer, code, x);
                x = endOf(layer, code) + DISTANCE;
            }
        }

        private void straighten(Order order, int layer, int side) {
            int free = Integer.MIN_VALUE;
            for (int place = 0; place < order.sizeOf(layer); place++) {
                int code = order.codeAt(layer, place);
                setX(layer, code, Math.max(wantedX(layer, code, side), free));
                free = endOf(layer, code) + DISTANCE;
            }
        }

        private int wantedX(int layer, int code, int side) {
            int sum = 0;
            int count = 0;
            for (int a = 0; a < ARROWS; a++) {
                int neighbour = levels.codeOf(a, layer + side);
                if (neighbour >= 0 && levels.codeOf(a, layer) == code) {
                    sum += middleOf(layer + side, neighbour);
                    count++;
                }
            }
            if (count == 0) {
                return xOf(layer, code);
            }
            return Math.floorDiv(sum, count) - net.widthOf(code) / 2;
        }

        private int leastX(Order order) {
            int least = Integer.MAX_VALUE;
            for (int layer = 0; layer < order.depth(); layer++) {
                for (int place = 0; place < order.sizeOf(layer); place++) {
                    least = Math.min(least, xOf(layer, order.codeAt(layer, place)));
                }
            }
            return least;
        }

        private void moveLeft(Order order, int by) {
            for (int layer = 0; layer < order.depth(); layer++) {
                for (int place = 0; place < order.sizeOf(layer); place++) {
                    int code = order.codeAt(layer, place);
                    setX(layer, code, xOf(layer, code) - by);
                }
            }
        }

        private void setX(int layer, int code, int x) {
            if (isLayer(layer) && isCode(code)) {
                xs[layer][code] = x;
            }
        }

        int xOf(int layer, int code) {
            boolean isThere = layer >= 0 && layer < LAYERS && code >= 0 && code < CODES;
            return isThere ? xs[layer][code] : NONE;
        }

        int middleOf(int layer, int code) {
            return xOf(layer, code) + net.widthOf(code) / 2;
        }

        private int endOf(int layer, int code) {
            return xOf(layer, code) + net.widthOf(code);
        }

        int greatestEnd(Order order) {
            int greatest = 0;
            for (int layer = 0; layer < order.depth(); layer++) {
                for (int place = 0; place < order.sizeOf(layer); place++) {
                    greatest = Math.max(greatest, endOf(layer, order.codeAt(layer, place)));
                }
            }
            return greatest;
        }
    }

    /** The tracks of the level parts between each layer and the next one. */
    private static final class Tracks {
        private final Levels levels;
        private final Spread spread;
        private final int[][] tracks = new int[LAYERS][ARROWS];
        private final int[] totals = new int[LAYERS];
        /** The level parts that wait for a track, by arrows. */
        private final boolean[] waiting = new boolean[ARROWS];
        private final int[] lefts = new int[ARROWS];
        private final int[] rights = new int[ARROWS];
        /** Where each track's parts end that have been taken. */
        private final int[] ends = new int[ARROWS];

        Tracks(Levels levels, Spread spread) {
            this.levels = levels;
            this.spread = spread;
        }

        void layOut(int depth) {
            for (int layer = 0; layer < depth - 1 && layer < LAYERS; layer++) {
                findParts(layer);
                totals[layer] = 0;
                // There are at most as many parts as arrows.
                for (int part = 0; part < ARROWS; part++) {
                    int a = nextPart();
                    if (a < 0) {
                        break;
                    }
                    waiting[a] = false;
                    giveTrack(a, layer);
                }
            }
        }

        private void findParts(int layer) {
            for (int a = 0; a < ARROWS; a++) {
                tracks[layer][a] = NONE;
                waiting[a] = false;
                if (levels.hasPiece(a, layer)) {
                    int upper = spread.middleOf(layer, levels.codeOf(a, layer));
                    int lower = spread.middleOf(layer + 1, levels.codeOf(a, layer + 1));
                    lefts[a] = Math.min(upper, lower);
                    rights[a] = Math.max(upper, lower);
                    waiting[a] = upper != lower;
                }
            }
        }

        private int nextPart() {
            int next = NONE;
            for (int a = 0; a < ARROWS; a++) {
                if (waiting[a] && (next < 0 || lefts[a] < lefts[next])) {
                    next = a;
                }
            }
            return next;
        }

        private void giveTrack(int a, int layer) {
            int track = 0;
            while (track < ARROWS && track < totals[layer] && ends[track] >= lefts[a]) {
                track++;
            }
            if (track >= ARROWS) {
                return;
            }
            tracks[layer][a] = track;
            ends[track] = rights[a];
            totals[layer] = Math.max(totals[layer], track + 1);
        }

        int trackOf(int a, int layer) {
            return isArrowNumber(a) && isLayer(layer) ? tracks[layer][a] : NONE;
        }

        int inGap(int layer) {
            return isLayer(layer) ? totals[layer] : NONE;
        }

        int most(int depth) {
            int most = 0;
            for (int layer = 0; layer < depth - 1 && layer < LAYERS; layer++) {
                most = Math.max(most, totals[layer]);
            }
            return most;
        }
    }
}
