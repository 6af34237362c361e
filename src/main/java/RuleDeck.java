import java.util.Arrays;

/** Layout rules read from a text and checked over cells in cells, flat or each cell once. */
public final class RuleDeck {
    public static final int NONE = -1;

    private static final int MOST_LAYERS = 65536;
    private static final int MOST_CELLS = 16;
    private static final int MOST_POLYGONS = 64;
    private static final int MOST_CORNERS = 16;
    private static final int MOST_PLACES = 32;
    private static final int MOST_RULES = 20;
    private static final int MOST_OCCURRENCES = 100;
    private static final int FARTHEST = 10000;
    private static final int HIGHEST_VOLTAGE = 1000000;
    private static final int TURNS = 8;

    private static final int RIGHT = 0;
    private static final int UP = 1;
    private static final int LEFT = 2;
    private static final int DOWN = 3;
    private static final int FACES = 4;

    private final Layout layout;
    private final Tape tape;
    private final Reader reader;
    private final Checker checker;
    private final Waivers waivers;
    private Rule[] rules;
    private int ruleCount;
    /** Of the latest run, if there was one since the rules were read. */
    private int latestRule;
    private boolean latestFlat;

    // The lists are made once and change roles, since what calls make is never given back.
    private Told latest;
    private Told found;
    private Told flatList;
    private final Told laidOut;

    public RuleDeck(int layers) {
        int kept = layers < 1 ? 1 : layers > MOST_LAYERS ? MOST_LAYERS : layers;
        layout = new Layout(kept);
        tape = new Tape();
        reader = new Reader(tape, kept);
        checker = new Checker(layout);
        waivers = new Waivers();
        rules = new Rule[MOST_RULES];
        for (int i = 0; i < MOST_RULES; i++) {
            rules[i] = new Rule();
        }
        latest = new Told();
        found = new Told();
        flatList = new Told();
        laidOut = new Told();
    }

    public boolean unit(int u) {
        if (!tape.takes(u) || tape.room() < 1) {
            return false;
        }
        tape.put(u);
        return true;
    }

    public boolean units(int four) {
        int wanted = 0;
        for (int shift = 24; shift >= 0; shift -= 8) {
            int u = (four >>> shift) & 255;
            if (u != 0) {
                if (!tape.takes(u)) {
                    return false;
                }
                wanted++;
            }
        }
        if (wanted > tape.room()) {
            return false;
        }
        for (int shift = 24; shift >= 0; shift -= 8) {
            int u = (four >>> shift) & 255;
            if (u != 0) {
                tape.put(u);
            }
        }
        return true;
    }

    public int read() {
        int answer = reader.parse();
        tape.clear();
        if (answer >= 0) {
            rules = reader.handOver(rules);
            ruleCount = answer;
            latestFlat = false;
            latest.clear();
            waivers.clear();
        }
        return answer;
    }

    public int cell() throws IllegalStateException {
        if (layout.cells >= MOST_CELLS) {
            throw new IllegalStateException("no more cells");
        }
        layout.cells++;
        return layout.cells - 1;
    }

    public int polygon(int cell, int layer) throws IndexOutOfBoundsException, IllegalStateException {
        if (!layout.hasCell(cell) || layer < 0 || layer >= layout.layers) {
            throw new IndexOutOfBoundsException("no such cell or layer");
        }
        if (layout.polygonCount >= MOST_POLYGONS) {
            throw new IllegalStateException("no more polygons");
        }
        return layout.addPolygon(cell, layer);
    }

    public boolean corner(int polygon, long x, long y)
            throws IndexOutOfBoundsException, IllegalStateException, IllegalArgumentException {
        if (!layout.hasPolygon(polygon)) {
            throw new IndexOutOfBoundsException("no such polygon");
        }
        Polygon changing = layout.polygons[polygon];
        if (changing.size >= MOST_CORNERS) {
            throw new IllegalStateException("no more corners");
        }
        if (!isCoordinate(x) || !isCoordinate(y)) {
            throw new IllegalArgumentException("a corner too far out");
        }
        return changing.extend((int) x, (int) y);
    }

    public boolean voltage(int polygon, long v) throws IndexOutOfBoundsException, IllegalArgumentException {
        if (!layout.hasPolygon(polygon)) {
            throw new IndexOutOfBoundsException("no such polygon");
        }
        if (v < -HIGHEST_VOLTAGE || v > HIGHEST_VOLTAGE) {
            throw new IllegalArgumentException("no such voltage");
        }
        Polygon changing = layout.polygons[polygon];
        boolean other = changing.volts != v;
        changing.volts = (int) v;
        return other;
    }

    public int place(int cell, int of, long x, long y, int turn)
            throws IndexOutOfBoundsException, IllegalStateException, IllegalArgumentException {
        if (!layout.hasCell(cell) || !layout.hasCell(of)) {
            throw new IndexOutOfBoundsException("no such cell");
        }
        if (layout.placeCount >= MOST_PLACES) {
            throw new IllegalStateException("no more places");
        }
        if (!isCoordinate(x) || !isCoordinate(y) || turn < 0 || turn >= TURNS) {
            throw new IllegalArgumentException("no such place or turn");
        }
        if (layout.isWithin(cell, of)) {
            return NONE;
        }
        return layout.addPlace(cell, of, (int) x, (int) y, turn);
    }

    public int run(int rule, int cell, boolean flat) throws IndexOutOfBoundsException, UnsupportedOperationException {
        if (!hasRule(rule) || !layout.hasCell(cell)) {
            throw new IndexOutOfBoundsException("no such rule or cell");
        }
        boolean fits = checker.collect(rules[rule], cell, found);
        if (!fits || (flat && !checker.layOut(found, cell, flatList))) {
            throw new UnsupportedOperationException("too many occurrences or violations");
        }
        Told before = latest;
        if (flat) {
            tellFlat(rule);
            latest = flatList;
            flatList = before;
        } else {
            tellByCells(rule);
            latest = found;
            found = before;
        }
        latestRule = rule;
        latestFlat = flat;
        return latest.size;
    }

    public long violation(int k, int what) throws IndexOutOfBoundsException {
        if (!latest.has(k) || what < 0 || what > Told.MEASURE) {
            throw new IndexOutOfBoundsException("no such violation or what");
        }
        return latest.value(k, what);
    }

    public int cellOf(int k) throws IndexOutOfBoundsException {
        if (!latest.has(k)) {
            throw new IndexOutOfBoundsException("no such violation");
        }
        return (int) latest.value(k, Told.CELL);
    }

    public boolean waive(int k) throws IndexOutOfBoundsException, IllegalStateException {
        if (!latest.has(k)) {
            throw new IndexOutOfBoundsException("no such violation");
        }
        if (waivers.covers(latestRule, latest, k)) {
            return false;
        }
        if (waivers.size >= Waivers.MOST) {
            throw new IllegalStateException("no more waived violations");
        }
        waivers.add(latestRule, latest, k);
        return true;
    }

    public int changed(long x0, long y0, long x1, long y1) throws IllegalStateException, IllegalArgumentException {
        if (!latestFlat) {
            throw new IllegalStateException("the latest run was not flat, or there was none");
        }
        if (x0 > x1 || y0 > y1) {
            throw new IllegalArgumentException("no such box");
        }
        int touched = 0;
        for (int k = 0; k < latest.size; k++) {
            boolean beside = latest.value(k, Told.LEAST_X) > x1 || latest.value(k, Told.GREATEST_X) < x0;
            boolean above = latest.value(k, Told.LEAST_Y) > y1 || latest.value(k, Told.GREATEST_Y) < y0;
            if (!beside && !above) {
                touched++;
            }
        }
        return touched;
    }

    public boolean same(int rule, int cell) throws IndexOutOfBoundsException, UnsupportedOperationException {
        if (!hasRule(rule) || !layout.hasCell(cell)) {
            throw new IndexOutOfBoundsException("no such rule or cell");
        }
        boolean fits = checker.collect(rules[rule], cell, found);
        if (!fits || !checker.layOut(found, cell, flatList)) {
            throw new UnsupportedOperationException("too many occurrences or violations");
        }
        tellFlat(rule);
        tellByCells(rule);
        checker.layOut(found, cell, laidOut);
        laidOut.sort(false);
        return laidOut.hasSameAs(flatList);
    }

    public int count(int what) throws IndexOutOfBoundsException {
        switch (what) {
            case 0:
                return ruleCount;
            case 1:
                return kindsInUse();
            case 2:
                return latest.size;
            case 3:
                return waivers.size;
            case 4:
                return tape.size;
            default:
                throw new IndexOutOfBoundsException("no such what");
        }
    }

    public int occurrences(int cell) throws IndexOutOfBoundsException, UnsupportedOperationException {
        if (!layout.hasCell(cell)) {
            throw new IndexOutOfBoundsException("no such cell");
        }
        int tallied = layout.tally(cell);
        if (tallied > MOST_OCCURRENCES) {
            throw new UnsupportedOperationException("too many occurrences");
        }
        return tallied;
    }

    private boolean hasRule(int rule) {
        return rule >= 0 && rule < ruleCount;
    }

    private static boolean isCoordinate(long value) {
        return value >= -FARTHEST && value <= FARTHEST;
    }

    private int kindsInUse() {
        int kinds = 0;
        for (int i = 0; i < ruleCount; i++) {
            boolean fresh = true;
            for (int before = 0; before < i; before++) {
                fresh = fresh && rules[before].kind != rules[i].kind;
            }
            if (fresh) {
                kinds++;
            }
        }
        return kinds;
    }

    // Waived violations are dropped only here, since they count towards the limit.
    private void tellFlat(int rule) {
        waivers.dropFrom(flatList, rule);
        flatList.sort(false);
    }

    private void tellByCells(int rule) {
        waivers.dropFrom(found, rule);
        found.sort(true);
        found.dropRepeats();
    }

    /** The characters that wait to be read. */
    private static final class Tape {
        static final int MOST = 600;

        final int[] written = new int[MOST];
        int size;

        boolean takes(int u) {
            return u == '\n' || (u >= ' ' && u <= '~');
        }

        int room() {
            return MOST - size;
        }

        void put(int u) {
            if (size < MOST) {
                written[size] = u;
                size++;
            }
        }

        void clear() {
            size = 0;
        }
    }

    /** What a rule can look at, with what its text must and may say. */
    private enum Kind {
        WIDTH("width", 1, false, true, false, false),
        NOTCH("notch", 1, false, true, false, false),
        AREA("area", 1, false, false, false, false),
        EDGE("edge", 1, false, false, false, false),
        CORNERS("corners", 1, false, false, false, false),
        DENSITY("density", 1, true, false, false, false),
        COUNT("count", 1, true, false, false, false),
        SPACE("space", 2, false, true, true, true),
        CORNER("corner", 2, false, false, true, false),
        ENCLOSE("enclose", 2, false, true, false, false),
        OVERLAP("overlap", 2, false, true, false, false);

        private static final Kind[] ALL = values();

        final String word;
        final int layers;
        final boolean whole;
        final boolean takesRun;
        final boolean takesVolt;
        final boolean takesEnd;

        Kind(String word, int layers, boolean whole, boolean takesRun, boolean takesVolt, boolean takesEnd) {
            this.word = word;
            this.layers = layers;
            this.whole = whole;
            this.takesRun = takesRun;
            this.takesVolt = takesVolt;
            this.takesEnd = takesEnd;
        }
    }

    /** One rule; a condition that its text does not have is NONE. */
    private static final class Rule {
        long name;
        Kind kind = Kind.WIDTH;
        int firstLayer;
        int secondLayer;
        int limit;
        int runs = NONE;
        int volts = NONE;
        int ends = NONE;

        void forgetConditions() {
            runs = NONE;
            volts = NONE;
            ends = NONE;
        }

        boolean isBetween(int oneLayer, int otherLayer) {
            return (oneLayer == firstLayer && otherLayer == secondLayer)
                    || (oneLayer == secondLayer && otherLayer == firstLayer);
        }

        boolean looksAt(int layer) {
            return kind.whole || layer == firstLayer || layer == secondLayer;
        }

        int leastRun() {
            return runs < 1 ? 1 : runs;
        }
    }

    /** Cuts the tape into words and makes rules of them; stands at the wrong word if there is one. */
    private static final class Reader {
        static final int LONGEST_NAME = 8;
        static final int LONGEST_NUMBER = 9;
        static final int CONDITIONS = 3;
        /** Above what the digits of a number can say. */
        static final int ANY_NUMBER = 1000000000;

        static final int END = 0;
        static final int BLANK = 1;
        static final int NAME = 2;
        static final int NUMBER = 3;
        static final int SIGN = 4;
        static final int BROKEN = 5;

        final Tape tape;
        final int layers;
        Rule[] drafts;
        int drafted;
        int word;
        int sort;
        int start;
        int next;
        long value;

        Reader(Tape tape, int layers) {
            this.tape = tape;
            this.layers = layers;
            drafts = new Rule[MOST_RULES];
            for (int i = 0; i < MOST_RULES; i++) {
                drafts[i] = new Rule();
            }
        }

        /** Swaps the rules just read for rows that the next reading may write over. */
        Rule[] handOver(Rule[] old) {
            Rule[] fresh = drafts;
            drafts = old;
            return fresh;
        }

        int parse() {
            word = -1;
            next = 0;
            drafted = 0;
            step();
            for (int i = 0; i < MOST_RULES; i++) {
                Rule rule = drafts[i];
                rule.forgetConditions();
                boolean complete = takeName(rule) && takeSign('=') && takeKind(rule) && takeLayers(rule)
                        && takeSign('<') && takeLimit(rule) && takeConditions(rule);
                if (!complete) {
                    return -1 - word;
                }
                drafted++;
                if (sort == END) {
                    return drafted;
                }
            }
            return -1 - word;
        }

        private boolean takeName(Rule rule) {
            if (sort != NAME) {
                return false;
            }
            for (int i = 0; i < drafted; i++) {
                if (drafts[i].name == value) {
                    return false;
                }
            }
            rule.name = value;
            step();
            return true;
        }

        private boolean takeSign(char sign) {
            if (sort != SIGN || value != sign) {
                return false;
            }
            step();
            return true;
        }

        private boolean takeKind(Rule rule) {
            for (int i = 0; i < Kind.ALL.length; i++) {
                if (takeWord(Kind.ALL[i].word)) {
                    rule.kind = Kind.ALL[i];
                    return true;
                }
            }
            return false;
        }

        private boolean takeWord(String text) {
            if (sort != NAME || next - start != text.length()) {
                return false;
            }
            for (int i = 0; i < text.length(); i++) {
                if (tape.written[start + i] != text.charAt(i)) {
                    return false;
                }
            }
            step();
            return true;
        }

        private boolean takeLayers(Rule rule) {
            rule.firstLayer = takeNumber(layers);
            if (rule.firstLayer == NONE) {
                return false;
            }
            rule.secondLayer = rule.kind.layers == 1 ? rule.firstLayer : takeNumber(layers);
            return rule.secondLayer != NONE;
        }

        private boolean takeLimit(Rule rule) {
            rule.limit = takeNumber(ANY_NUMBER);
            return rule.limit != NONE;
        }

        private int takeNumber(int below) {
            if (sort != NUMBER || value >= below) {
                return NONE;
            }
            int taken = (int) value;
            step();
            return taken;
        }

        private boolean takeConditions(Rule rule) {
            for (int taken = 0; taken < CONDITIONS && sort == NAME; taken++) {
                if (!takeCondition(rule)) {
                    return false;
                }
            }
            return takeSign(';');
        }

        private boolean takeCondition(Rule rule) {
            if (rule.kind.takesRun && rule.runs == NONE && takeWord("run")) {
                rule.runs = takeNumber(ANY_NUMBER);
                return rule.runs != NONE;
            }
            if (rule.kind.takesVolt && rule.volts == NONE && takeWord("volt")) {
                rule.volts = takeNumber(ANY_NUMBER);
                return rule.volts != NONE;
            }
            if (rule.kind.takesEnd && rule.ends == NONE && takeWord("end")) {
                rule.ends = takeNumber(ANY_NUMBER);
                return rule.ends != NONE;
            }
            return false;
        }

        /** Goes on to the next word: its sort, where it starts, and what it is worth. */
        private void step() {
            word++;
            while (next < tape.size && sortOf(tape.written[next]) == BLANK) {
                next++;
            }
            start = next;
            value = 0;
            sort = next < tape.size ? sortOf(tape.written[next]) : END;
            if (sort == NAME) {
                // Letters count from 1, so that no two names are worth the same.
                stepOver('a' - 1, 27, LONGEST_NAME);
            } else if (sort == NUMBER) {
                stepOver('0', 10, LONGEST_NUMBER);
            } else if (sort != END) {
                value = tape.written[next];
                next++;
            }
        }

        private void stepOver(int zero, int base, int longest) {
            while (next < tape.size && sortOf(tape.written[next]) == sort) {
                value = value * base + (tape.written[next] - zero);
                next++;
            }
            if (next - start > longest) {
                sort = BROKEN;
            }
        }

        private static int sortOf(int u) {
            if (u >= 'a' && u <= 'z') {
                return NAME;
            }
            if (u >= '0' && u <= '9') {
                return NUMBER;
            }
            if (u == ' ' || u == '\n') {
                return BLANK;
            }
            return u == '<' || u == '=' || u == ';' ? SIGN : BROKEN;
        }
    }

    /** Mirrors, turns by quarters to the left and moves, in this order. */
    private static final class Move {
        private boolean mirrored;
        private int quarters;
        private int x;
        private int y;

        void set(int turn, int x, int y) {
            mirrored = turn >= 4;
            quarters = turn & 3;
            this.x = x;
            this.y = y;
        }

        void copy(Move other) {
            mirrored = other.mirrored;
            quarters = other.quarters;
            x = other.x;
            y = other.y;
        }

        /** First as inner does, then as outer does. */
        void join(Move outer, Move inner) {
            // A mirror before a turn to the left is one behind a turn to the right.
            int turned = outer.mirrored ? outer.quarters - inner.quarters : outer.quarters + inner.quarters;
            mirrored = outer.mirrored != inner.mirrored;
            quarters = turned & 3;
            x = outer.xOf(inner.x, inner.y);
            y = outer.yOf(inner.x, inner.y);
        }

        int xOf(int px, int py) {
            int flipped = mirrored ? -py : py;
            switch (quarters) {
                case 0:
                    return x + px;
                case 1:
                    return x - flipped;
                case 2:
                    return x - px;
                default:
                    return x + flipped;
            }
        }

        int yOf(int px, int py) {
            int flipped = mirrored ? -py : py;
            switch (quarters) {
                case 0:
                    return y + flipped;
                case 1:
                    return y + px;
                case 2:
                    return y - flipped;
                default:
                    return y - px;
            }
        }

        int faceOf(int face) {
            return ((mirrored ? -face : face) + quarters) & 3;
        }

        /** Where an outer corner points, told by its faces: that one and the next one round to the left. */
        int cornerOf(int corner) {
            // Mirrored faces go round the other way, so that the second one comes first.
            return mirrored ? faceOf(corner + 1) : faceOf(corner);
        }
    }

    /** The corners of a polygon and, while it is right, what they make of it. */
    private static final class Polygon {
        final int home;
        final int layer;
        final int[] x = new int[MOST_CORNERS];
        final int[] y = new int[MOST_CORNERS];
        int size;
        int volts;
        boolean right;
        int area;
        /** Which way the side from each corner to the next one faces. */
        final int[] face = new int[MOST_CORNERS];
        /** Of an outer corner that of its two faces which comes first round to the left; of others NONE. */
        final int[] outer = new int[MOST_CORNERS];

        Polygon(int home, int layer) {
            this.home = home;
            this.layer = layer;
        }

        boolean extend(int newX, int newY) {
            if (size > 0 && (newX == x[size - 1]) == (newY == y[size - 1])) {
                return false;
            }
            x[size] = newX;
            y[size] = newY;
            size++;
            right = closes() && alternates() && !crosses();
            if (right) {
                settle();
            }
            return true;
        }

        int after(int corner) {
            return corner + 1 < size ? corner + 1 : 0;
        }

        private boolean closes() {
            return size >= 4 && (x[0] == x[size - 1]) != (y[0] == y[size - 1]);
        }

        private boolean alternates() {
            for (int i = 0; i < size; i++) {
                if (stands(i) == stands(after(i))) {
                    return false;
                }
            }
            return true;
        }

        private boolean stands(int side) {
            return x[side] == x[after(side)];
        }

        private boolean crosses() {
            for (int i = 0; i < size; i++) {
                for (int j = i + 2; j < size; j++) {
                    if (after(j) != i && touch(i, j)) {
                        return true;
                    }
                }
            }
            return false;
        }

        private boolean touch(int i, int j) {
            int iEnd = after(i);
            int jEnd = after(j);
            return Math.min(x[i], x[iEnd]) <= Math.max(x[j], x[jEnd])
                    && Math.min(x[j], x[jEnd]) <= Math.max(x[i], x[iEnd])
                    && Math.min(y[i], y[iEnd]) <= Math.max(y[j], y[jEnd])
                    && Math.min(y[j], y[jEnd]) <= Math.max(y[i], y[iEnd]);
        }

        private void settle() {
            long signed = 0;
            for (int i = 0; i < size; i++) {
                signed += (long) x[i] * (y[after(i)] - y[i]);
            }
            boolean toTheLeft = signed > 0;
            area = (int) (toTheLeft ? signed : -signed);
            for (int i = 0; i < size; i++) {
                face[i] = (heading(i) + (toTheLeft ? 3 : 1)) & 3;
            }
            for (int i = 0; i < size; i++) {
                int end = after(i);
                boolean turnsLeft = ((heading(end) - heading(i)) & 3) == 1;
                int firstFace = toTheLeft ? face[i] : face[end];
                outer[end] = turnsLeft == toTheLeft ? firstFace : NONE;
            }
        }

        private int heading(int side) {
            int end = after(side);
            if (stands(side)) {
                return y[end] > y[side] ? UP : DOWN;
            }
            return x[end] > x[side] ? RIGHT : LEFT;
        }
    }

    /** Cells with their polygons and with other cells in them. */
    private static final class Layout {
        final int layers;
        int cells;
        final Polygon[] polygons = new Polygon[MOST_POLYGONS];
        int polygonCount;
        final int[] holder = new int[MOST_PLACES];
        final int[] holds = new int[MOST_PLACES];
        final Move[] moves = new Move[MOST_PLACES];
        int placeCount;
        /** How many occurrences cells have, as far as it was tallied last. */
        final int[] held = new int[MOST_CELLS];
        final int[] nextHeld = new int[MOST_CELLS];

        Layout(int layers) {
            this.layers = layers;
        }

        boolean hasCell(int cell) {
            return cell >= 0 && cell < cells;
        }

        boolean hasPolygon(int polygon) {
            return polygon >= 0 && polygon < polygonCount;
        }

        int addPolygon(int home, int layer) {
            polygons[polygonCount] = new Polygon(home, layer);
            polygonCount++;
            return polygonCount - 1;
        }

        int addPlace(int cell, int of, int x, int y, int turn) {
            holder[placeCount] = cell;
            holds[placeCount] = of;
            moves[placeCount] = new Move();
            moves[placeCount].set(turn, x, y);
            placeCount++;
            return placeCount - 1;
        }

        /** Whether a cell is another one or in it, directly or over others. */
        boolean isWithin(int cell, int other) {
            return ((cellsIn(other) >> cell) & 1) == 1;
        }

        /** A bit for the cell itself and for each one in it. */
        int cellsIn(int cell) {
            int bits = 1 << cell;
            for (int round = 0; round < cells; round++) {
                int before = bits;
                for (int i = 0; i < placeCount; i++) {
                    if (((bits >> holder[i]) & 1) == 1) {
                        bits |= 1 << holds[i];
                    }
                }
                if (bits == before) {
                    break;
                }
            }
            return bits;
        }

        /** How many occurrences a cell has, or one more than a cell may have if there are still more. */
        int tally(int cell) {
            Arrays.fill(held, 0);
            for (int round = 0; round < cells; round++) {
                if (!tallyOnce()) {
                    break;
                }
            }
            return held[cell];
        }

        private boolean tallyOnce() {
            Arrays.fill(nextHeld, 0);
            for (int i = 0; i < polygonCount; i++) {
                if (polygons[i].right) {
                    nextHeld[polygons[i].home]++;
                }
            }
            for (int i = 0; i < placeCount; i++) {
                int sum = nextHeld[holder[i]] + held[holds[i]];
                nextHeld[holder[i]] = Math.min(sum, MOST_OCCURRENCES + 1);
            }
            boolean changes = false;
            for (int i = 0; i < cells; i++) {
                changes = changes || held[i] != nextHeld[i];
                held[i] = nextHeld[i];
            }
            return changes;
        }
    }

    /** The occurrences of one cell as they lie in it, with sides by faces or corners by quarters. */
    private static final class Scene {
        final Layout layout;
        /** How what is so many places down lies in the cell; the first one moves nothing. */
        final Move[] path = new Move[MOST_CELLS];
        int size;
        final int[] shape = new int[MOST_OCCURRENCES];
        /** Over which of the cell's places each comes; NONE for its own polygons. */
        final int[] branch = new int[MOST_OCCURRENCES];
        final Move[] lies = new Move[MOST_OCCURRENCES];
        /** Least x, least y, greatest x and greatest y of each. */
        final int[] box = new int[MOST_OCCURRENCES * 4];
        /** The box of all of them. */
        final int[] span = new int[4];
        final int[] cornerX = new int[MOST_CORNERS];
        final int[] cornerY = new int[MOST_CORNERS];
        /** Where the sides that face one way, or the corners, begin; where they end, the next ones begin. */
        final int[] starts = new int[MOST_OCCURRENCES * FACES + 1];
        /** Of a side, where it stands or lies; of a corner, its x. */
        final int[] at = new int[MOST_OCCURRENCES * MOST_CORNERS];
        /** Of a side, its lesser end; of a corner, its y. */
        final int[] from = new int[MOST_OCCURRENCES * MOST_CORNERS];
        final int[] to = new int[MOST_OCCURRENCES * MOST_CORNERS];

        Scene(Layout layout) {
            this.layout = layout;
            for (int i = 0; i < path.length; i++) {
                path[i] = new Move();
            }
            for (int i = 0; i < lies.length; i++) {
                lies[i] = new Move();
            }
        }

        /** Gathers what the rule looks at; its own polygons alone if the rule looks at one at a time. */
        void gather(int cell, Rule rule) {
            size = 0;
            descend(cell, 0, NONE, rule);
            for (int i = 0; i < size; i++) {
                measure(i);
                if (rule.kind == Kind.CORNER) {
                    listCorners(i);
                } else {
                    listSides(i);
                }
            }
        }

        Polygon polygonOf(int occurrence) {
            return layout.polygons[shape[occurrence]];
        }

        private void descend(int cell, int depth, int over, Rule rule) {
            for (int i = 0; i < layout.polygonCount; i++) {
                Polygon own = layout.polygons[i];
                if (own.home == cell && own.right && rule.looksAt(own.layer)) {
                    put(i, over, path[depth]);
                }
            }
            boolean oneAtATime = rule.kind.layers == 1 && !rule.kind.whole;
            if (oneAtATime || depth + 1 >= path.length) {
                return;
            }
            for (int i = 0; i < layout.placeCount; i++) {
                int of = layout.holds[i];
                if (layout.holder[i] == cell && layout.held[of] > 0) {
                    path[depth + 1].join(path[depth], layout.moves[i]);
                    descend(of, depth + 1, depth == 0 ? i : over, rule);
                }
            }
        }

        private void put(int polygon, int over, Move lying) {
            if (size < MOST_OCCURRENCES) {
                shape[size] = polygon;
                branch[size] = over;
                lies[size].copy(lying);
                size++;
            }
        }

        /** Moves the corners to where they lie, and finds their box. */
        private void measure(int occurrence) {
            Polygon polygon = polygonOf(occurrence);
            Move move = lies[occurrence];
            int least = occurrence * 4;
            for (int i = 0; i < polygon.size; i++) {
                int x = move.xOf(polygon.x[i], polygon.y[i]);
                int y = move.yOf(polygon.x[i], polygon.y[i]);
                cornerX[i] = x;
                cornerY[i] = y;
                box[least] = i == 0 ? x : Math.min(box[least], x);
                box[least + 1] = i == 0 ? y : Math.min(box[least + 1], y);
                box[least + 2] = i == 0 ? x : Math.max(box[least + 2], x);
                box[least + 3] = i == 0 ? y : Math.max(box[least + 3], y);
            }
        }

        private void listSides(int occurrence) {
            Polygon polygon = polygonOf(occurrence);
            int item = starts[occurrence * FACES];
            for (int face = 0; face < FACES; face++) {
                int[] across = face == RIGHT || face == LEFT ? cornerX : cornerY;
                int[] along = face == RIGHT || face == LEFT ? cornerY : cornerX;
                for (int i = 0; i < polygon.size; i++) {
                    if (lies[occurrence].faceOf(polygon.face[i]) == face) {
                        int end = polygon.after(i);
                        at[item] = across[i];
                        from[item] = Math.min(along[i], along[end]);
                        to[item] = Math.max(along[i], along[end]);
                        item++;
                    }
                }
                starts[occurrence * FACES + face + 1] = item;
            }
        }

        /** Outer corners alone, by the first of their faces round to the left. */
        private void listCorners(int occurrence) {
            Polygon polygon = polygonOf(occurrence);
            int item = starts[occurrence * FACES];
            for (int corner = 0; corner < FACES; corner++) {
                for (int i = 0; i < polygon.size; i++) {
                    int outer = polygon.outer[i];
                    if (outer != NONE && lies[occurrence].cornerOf(outer) == corner) {
                        at[item] = cornerX[i];
                        from[item] = cornerY[i];
                        item++;
                    }
                }
                starts[occurrence * FACES + corner + 1] = item;
            }
        }

        int begin(int occurrence, int face) {
            return starts[occurrence * FACES + face];
        }

        int end(int occurrence, int face) {
            return starts[occurrence * FACES + face + 1];
        }

        /** The box of nothing is 0, 0, 0, 0. */
        void spanAll() {
            Arrays.fill(span, 0);
            for (int i = 0; i < size; i++) {
                for (int axis = 0; axis < 2; axis++) {
                    int least = box[i * 4 + axis];
                    int greatest = box[i * 4 + axis + 2];
                    span[axis] = i == 0 ? least : Math.min(span[axis], least);
                    span[axis + 2] = i == 0 ? greatest : Math.max(span[axis + 2], greatest);
                }
            }
        }

        boolean areMetHere(int one, int other) {
            return branch[one] == NONE || branch[one] != branch[other];
        }

        boolean boxesOverlap(int one, int other) {
            return gap(one, other, 0) < 0 && gap(one, other, 1) < 0;
        }

        boolean boxesAreNear(int one, int other, int limit) {
            return gap(one, other, 0) < limit && gap(one, other, 1) < limit;
        }

        /** How far two boxes are apart in x (0) or y (1); below 0 if they overlap there. */
        private int gap(int one, int other, int axis) {
            int a = one * 4 + axis;
            int b = other * 4 + axis;
            return Math.max(box[b] - box[a + 2], box[a] - box[b + 2]);
        }
    }

    /** Finds violations cell by cell, and lays them out. */
    private static final class Checker {
        private final Layout layout;
        private final Scene scene;
        /** How what is so many places down lies in the cell; the first one moves nothing. */
        private final Move[] path = new Move[MOST_CELLS];
        /** Where in a list that goes by cells those of each cell begin. */
        private final int[] begin = new int[MOST_CELLS + 1];
        private Rule rule;
        private Told found;

        Checker(Layout layout) {
            this.layout = layout;
            scene = new Scene(layout);
            for (int i = 0; i < path.length; i++) {
                path[i] = new Move();
            }
        }

        /** Lists the violations that are met in each cell, by cells; whether the limits allow it. */
        boolean collect(Rule asked, int cell, Told into) {
            if (layout.tally(cell) > MOST_OCCURRENCES) {
                return false;
            }
            rule = asked;
            found = into;
            found.clear();
            if (rule.kind.whole) {
                judgeWhole(cell);
                return true;
            }
            int inside = layout.cellsIn(cell);
            for (int i = 0; i < layout.cells; i++) {
                if (((inside >> i) & 1) == 1 && layout.held[i] > 0) {
                    judgeCell(i);
                }
            }
            return !found.overfull;
        }

        /** Lays a list by cells out wherever these cells are in a cell; whether the limits allow it. */
        boolean layOut(Told byCells, int cell, Told into) {
            int next = 0;
            for (int i = 0; i < MOST_CELLS; i++) {
                begin[i] = next;
                while (next < byCells.size && byCells.value(next, Told.CELL) == i) {
                    next++;
                }
            }
            begin[MOST_CELLS] = next;
            into.clear();
            layOutBelow(byCells, cell, 0, into);
            return !into.overfull;
        }

        private void layOutBelow(Told byCells, int cell, int depth, Told into) {
            for (int k = begin[cell]; k < begin[cell + 1] && !into.overfull; k++) {
                into.addMoved(byCells, k, path[depth]);
            }
            if (depth + 1 >= path.length) {
                return;
            }
            for (int i = 0; i < layout.placeCount && !into.overfull; i++) {
                int of = layout.holds[i];
                if (layout.holder[i] == cell && layout.held[of] > 0) {
                    path[depth + 1].join(path[depth], layout.moves[i]);
                    layOutBelow(byCells, of, depth + 1, into);
                }
            }
        }

        private void judgeWhole(int cell) {
            scene.gather(cell, rule);
            found.home = cell;
            long areas = 0;
            int onLayer = 0;
            for (int i = 0; i < scene.size; i++) {
                if (scene.polygonOf(i).layer == rule.firstLayer) {
                    areas += scene.polygonOf(i).area;
                    onLayer++;
                }
            }
            scene.spanAll();
            int[] span = scene.span;
            long squares = (long) (span[2] - span[0]) * (span[3] - span[1]);
            long density = squares > 0 ? areas * 100 / squares : 0;
            long measure = rule.kind == Kind.DENSITY ? density : onLayer;
            if (measure < rule.limit) {
                found.add(span[0], span[1], span[2], span[3], NONE, NONE, measure);
            }
        }

        private void judgeCell(int cell) {
            scene.gather(cell, rule);
            found.home = cell;
            for (int i = 0; i < scene.size && !found.overfull; i++) {
                if (rule.kind.layers == 1) {
                    judgeOne(i);
                    continue;
                }
                for (int j = i + 1; j < scene.size && !found.overfull; j++) {
                    if (scene.areMetHere(i, j)) {
                        judgePair(i, j);
                    }
                }
            }
        }

        private void judgeOne(int i) {
            int number = scene.shape[i];
            Polygon polygon = scene.polygonOf(i);
            switch (rule.kind) {
                case WIDTH:
                    across(i, LEFT, i, RIGHT, number, NONE);
                    across(i, DOWN, i, UP, number, NONE);
                    break;
                case NOTCH:
                    across(i, RIGHT, i, LEFT, number, NONE);
                    across(i, UP, i, DOWN, number, NONE);
                    break;
                case AREA:
                    judgeMeasure(i, polygon.area);
                    break;
                case CORNERS:
                    judgeMeasure(i, polygon.size);
                    break;
                default:
                    judgeEdges(i);
                    break;
            }
        }

        private void judgeMeasure(int i, int measure) {
            if (measure < rule.limit) {
                int[] box = scene.box;
                int least = i * 4;
                found.add(box[least], box[least + 1], box[least + 2], box[least + 3], scene.shape[i], NONE, measure);
            }
        }

        private void judgeEdges(int i) {
            int number = scene.shape[i];
            for (int face = 0; face < FACES; face++) {
                for (int s = scene.begin(i, face); s < scene.end(i, face); s++) {
                    int at = scene.at[s];
                    int from = scene.from[s];
                    int to = scene.to[s];
                    if (to - from >= rule.limit) {
                        continue;
                    }
                    if (isUpright(face)) {
                        found.add(at, from, at, to, number, NONE, to - from);
                    } else {
                        found.add(from, at, to, at, number, NONE, to - from);
                    }
                }
            }
        }

        private void judgePair(int i, int j) {
            switch (rule.kind) {
                case SPACE:
                    if (areNear(i, j)) {
                        judgeSpace(i, j);
                        judgeSpace(j, i);
                    }
                    break;
                case CORNER:
                    if (areNear(i, j)) {
                        judgeCorners(i, j);
                        judgeCorners(j, i);
                    }
                    break;
                case ENCLOSE:
                    if (scene.boxesOverlap(i, j)) {
                        judgeEnclosing(i, j);
                        judgeEnclosing(j, i);
                    }
                    break;
                default:
                    if (scene.boxesOverlap(i, j) && areOnBothLayers(i, j)) {
                        judgeOverlap(i, j);
                        judgeOverlap(j, i);
                    }
                    break;
            }
        }

        private void judgeSpace(int a, int b) {
            across(a, RIGHT, b, LEFT, scene.shape[a], scene.shape[b]);
            across(a, UP, b, DOWN, scene.shape[a], scene.shape[b]);
        }

        private void judgeOverlap(int a, int b) {
            across(b, LEFT, a, RIGHT, scene.shape[a], scene.shape[b]);
            across(b, DOWN, a, UP, scene.shape[a], scene.shape[b]);
        }

        private void judgeEnclosing(int inner, int outer) {
            boolean onLayers = scene.polygonOf(inner).layer == rule.firstLayer
                    && scene.polygonOf(outer).layer == rule.secondLayer;
            if (onLayers) {
                int first = scene.shape[inner];
                int second = scene.shape[outer];
                across(inner, RIGHT, outer, RIGHT, first, second);
                across(inner, UP, outer, UP, first, second);
                across(outer, LEFT, inner, LEFT, first, second);
                across(outer, DOWN, inner, DOWN, first, second);
            }
        }

        private boolean areOnBothLayers(int i, int j) {
            return rule.isBetween(scene.polygonOf(i).layer, scene.polygonOf(j).layer);
        }

        private boolean areNear(int i, int j) {
            if (!areOnBothLayers(i, j) || !scene.boxesAreNear(i, j, rule.limit)) {
                return false;
            }
            int apart = scene.polygonOf(i).volts - scene.polygonOf(j).volts;
            return rule.volts == NONE || Math.abs(apart) >= rule.volts;
        }

        /** Tells the gaps from sides of one occurrence, to the left or below, to sides of one to the right or above. */
        private void across(int low, int lowFace, int high, int highFace, int first, int second) {
            int nearest = rule.kind == Kind.ENCLOSE ? 0 : 1;
            int lowEnd = scene.end(low, lowFace);
            int highEnd = scene.end(high, highFace);
            for (int s = scene.begin(low, lowFace); s < lowEnd; s++) {
                for (int t = scene.begin(high, highFace); t < highEnd; t++) {
                    int distance = scene.at[t] - scene.at[s];
                    if (distance < nearest || distance >= rule.limit) {
                        continue;
                    }
                    int from = Math.max(scene.from[s], scene.from[t]);
                    int to = Math.min(scene.to[s], scene.to[t]);
                    if (to - from < rule.leastRun() || !areEnds(s, t)) {
                        continue;
                    }
                    if (isUpright(lowFace)) {
                        found.add(scene.at[s], from, scene.at[t], to, first, second, distance);
                    } else {
                        found.add(from, scene.at[s], to, scene.at[t], first, second, distance);
                    }
                }
            }
        }

        private boolean areEnds(int s, int t) {
            int shorter = Math.min(scene.to[s] - scene.from[s], scene.to[t] - scene.from[t]);
            return rule.ends == NONE || shorter < rule.ends;
        }

        private static boolean isUpright(int face) {
            return face == RIGHT || face == LEFT;
        }

        /** Corners go by the first of their faces round to the left: RIGHT is that to the right and up. */
        private void judgeCorners(int a, int b) {
            judgeCornersOf(a, RIGHT, b, LEFT);
            judgeCornersOf(a, DOWN, b, UP);
        }

        private void judgeCornersOf(int a, int aCorner, int b, int bCorner) {
            for (int s = scene.begin(a, aCorner); s < scene.end(a, aCorner); s++) {
                for (int t = scene.begin(b, bCorner); t < scene.end(b, bCorner); t++) {
                    int aY = scene.from[s];
                    int bY = scene.from[t];
                    long right = scene.at[t] - scene.at[s];
                    long away = aCorner == RIGHT ? bY - aY : aY - bY;
                    long squares = right * right + away * away;
                    if (right > 0 && away > 0 && squares < (long) rule.limit * rule.limit) {
                        found.add(scene.at[s], Math.min(aY, bY), scene.at[t], Math.max(aY, bY),
                                scene.shape[a], scene.shape[b], squares);
                    }
                }
            }
        }
    }

    /** A list of violations: rows of numbers, and the order in which they are told. */
    private static final class Told {
        static final int MOST = 1500;

        // The columns stand in the order in which a flat list is sorted.
        static final int LEAST_X = 0;
        static final int LEAST_Y = 1;
        static final int GREATEST_X = 2;
        static final int GREATEST_Y = 3;
        static final int FIRST = 4;
        static final int SECOND = 5;
        static final int MEASURE = 6;
        static final int CELL = 7;
        static final int BOX_THERE = 8;
        static final int COLUMNS = 12;

        final long[] rows = new long[MOST * COLUMNS];
        int used;
        int[] order = new int[MOST];
        int[] sorted = new int[MOST];
        int size;
        /** Whether one more was to come than there is room for. */
        boolean overfull;
        /** The cell in which what is added is met. */
        int home;

        void clear() {
            used = 0;
            size = 0;
            overfull = false;
        }

        boolean has(int k) {
            return k >= 0 && k < size;
        }

        long value(int k, int column) {
            return rows[order[k] * COLUMNS + column];
        }

        void add(int x0, int y0, int x1, int y1, int first, int second, long measure) {
            if (used >= MOST) {
                overfull = true;
                return;
            }
            int row = used * COLUMNS;
            rows[row + LEAST_X] = x0;
            rows[row + LEAST_Y] = y0;
            rows[row + GREATEST_X] = x1;
            rows[row + GREATEST_Y] = y1;
            rows[row + FIRST] = first;
            rows[row + SECOND] = second;
            rows[row + MEASURE] = measure;
            rows[row + CELL] = home;
            System.arraycopy(rows, row + LEAST_X, rows, row + BOX_THERE, 4);
            order[size] = used;
            size++;
            used++;
        }

        /** Adds a violation of another list as it lies behind a move; what is told of its own cell stays. */
        void addMoved(Told other, int k, Move move) {
            int x0 = (int) other.value(k, LEAST_X);
            int y0 = (int) other.value(k, LEAST_Y);
            int x1 = (int) other.value(k, GREATEST_X);
            int y1 = (int) other.value(k, GREATEST_Y);
            home = (int) other.value(k, CELL);
            int ax = move.xOf(x0, y0);
            int ay = move.yOf(x0, y0);
            int bx = move.xOf(x1, y1);
            int by = move.yOf(x1, y1);
            add(Math.min(ax, bx), Math.min(ay, by), Math.max(ax, bx), Math.max(ay, by),
                    (int) other.value(k, FIRST), (int) other.value(k, SECOND), other.value(k, MEASURE));
            if (!overfull) {
                int there = other.order[k] * COLUMNS + BOX_THERE;
                System.arraycopy(other.rows, there, rows, (used - 1) * COLUMNS + BOX_THERE, 4);
            }
        }

        /** Merges ever longer runs: flat by the columns as they stand, else by cells first. */
        void sort(boolean byCells) {
            for (int width = 1; width < size; width *= 2) {
                for (int from = 0; from < size; from += 2 * width) {
                    int middle = Math.min(from + width, size);
                    merge(from, middle, Math.min(middle + width, size), byCells);
                }
                int[] before = order;
                order = sorted;
                sorted = before;
            }
        }

        private void merge(int from, int middle, int end, boolean byCells) {
            int left = from;
            int right = middle;
            for (int i = from; i < end; i++) {
                boolean takeLeft = right >= end || (left < middle && compare(left, right, byCells) <= 0);
                sorted[i] = takeLeft ? order[left++] : order[right++];
            }
        }

        private int compare(int one, int other, boolean byCells) {
            if (byCells && value(one, CELL) != value(other, CELL)) {
                return Long.compare(value(one, CELL), value(other, CELL));
            }
            int oneRow = order[one] * COLUMNS;
            int otherRow = order[other] * COLUMNS;
            for (int i = 0; i < COLUMNS; i++) {
                if (rows[oneRow + i] != rows[otherRow + i]) {
                    return Long.compare(rows[oneRow + i], rows[otherRow + i]);
                }
            }
            return 0;
        }

        /** Keeps one of those that are alike in all; the list must be sorted. */
        void dropRepeats() {
            int kept = 0;
            for (int k = 0; k < size; k++) {
                if (kept == 0 || compare(kept - 1, k, false) != 0) {
                    order[kept] = order[k];
                    kept++;
                }
            }
            size = kept;
        }

        /** Whether two lists, both sorted flat, have the same boxes with first, second and measure. */
        boolean hasSameAs(Told other) {
            int mine = 0;
            int theirs = 0;
            for (int i = 0; i < MOST && mine < size && theirs < other.size; i++) {
                if (!isAlike(mine, other, theirs)) {
                    return false;
                }
                mine = behindAlike(mine);
                theirs = other.behindAlike(theirs);
            }
            return mine == size && theirs == other.size;
        }

        private int behindAlike(int k) {
            int next = k + 1;
            while (next < size && isAlike(k, this, next)) {
                next++;
            }
            return next;
        }

        private boolean isAlike(int k, Told other, int otherK) {
            for (int i = 0; i <= MEASURE; i++) {
                if (value(k, i) != other.value(otherK, i)) {
                    return false;
                }
            }
            return true;
        }
    }

    /** The violations that later runs leave out. */
    private static final class Waivers {
        static final int MOST = 40;
        static final int COLUMNS = 8;

        final long[] rows = new long[MOST * COLUMNS];
        final long[] asked = new long[COLUMNS];
        int size;

        void clear() {
            size = 0;
        }

        boolean covers(int rule, Told list, int k) {
            describe(rule, list, k);
            for (int i = 0; i < size; i++) {
                if (isAsked(i)) {
                    return true;
                }
            }
            return false;
        }

        void add(int rule, Told list, int k) {
            if (size < MOST) {
                describe(rule, list, k);
                System.arraycopy(asked, 0, rows, size * COLUMNS, COLUMNS);
                size++;
            }
        }

        void dropFrom(Told list, int rule) {
            int kept = 0;
            for (int k = 0; k < list.size; k++) {
                if (size == 0 || !covers(rule, list, k)) {
                    list.order[kept] = list.order[k];
                    kept++;
                }
            }
            list.size = kept;
        }

        /** What makes a violation the waived one: all that is told of it in its own cell but the measure. */
        private void describe(int rule, Told list, int k) {
            asked[0] = rule;
            asked[1] = list.value(k, Told.CELL);
            asked[2] = list.value(k, Told.FIRST);
            asked[3] = list.value(k, Told.SECOND);
            for (int i = 0; i < 4; i++) {
                asked[4 + i] = list.value(k, Told.BOX_THERE + i);
            }
        }

        private boolean isAsked(int waiver) {
            for (int i = 0; i < COLUMNS; i++) {
                if (rows[waiver * COLUMNS + i] != asked[i]) {
                    return false;
                }
            }
            return true;
        }
    }
}
