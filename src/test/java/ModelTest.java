import java.util.ArrayList;
import java.util.Arrays;
import java.util.Collections;
import java.util.List;
import java.util.Random;

/** Promises 5 to 17 on layouts made at random, from fixed seeds, against the model. */
public final class ModelTest {
    private static final String[] KINDS = {"width", "notch", "area", "edge", "corners", "density", "count",
        "space", "corner", "enclose", "overlap"};
    /** An object is promised to answer 512 calls; the dearest step takes fewer than what this leaves. */
    private static final int MOST_SPENT = 380;
    private static final int MOST_ASKED = 14;

    private final Random random;
    private final Check check;
    private final Model model = new Model();
    private final int layers;
    private final RuleDeck deck;
    private List<long[]> latest = null;
    private int latestRule;
    private boolean latestFlat;
    /** How many calls were made, or a few less. */
    private int spent = 0;
    private static long told = 0;

    private ModelTest(long seed, Check check) {
        random = new Random(seed);
        this.check = check;
        layers = 1 + random.nextInt(3);
        deck = new RuleDeck(layers);
    }

    public static void main(String[] args) {
        Check check = new Check();
        int seeds = args.length > 1 ? Integer.parseInt(args[1]) : 4000;
        for (int seed = 0; seed < seeds; seed++) {
            new ModelTest(seed, check).play();
        }
        check.due("violations were told", told > 10000, true);
        check.end();
    }

    private void play() {
        int cells = 1 + random.nextInt(5);
        for (int i = 0; i < cells; i++) {
            check.due("cell()", deck.cell(), model.cells++);
        }
        readRules();
        for (int i = 2 + random.nextInt(8); i > 0; i--) {
            addPolygon();
        }
        for (int i = random.nextInt(9); i > 0; i--) {
            addPlace();
        }
        for (int i = 0; i < 30 && spent < MOST_SPENT; i++) {
            act();
        }
    }

    private void act() {
        spent += 4;
        switch (random.nextInt(8)) {
            case 0 -> askOccurrences();
            case 1 -> waiveOne();
            case 2 -> askChanged();
            case 3 -> askSame();
            case 4 -> changeSomething();
            default -> runOne();
        }
        check.due("count(2)", deck.count(2), latest == null ? 0 : latest.size());
        check.due("count(3)", deck.count(3), model.waived.size());
    }

    private void changeSomething() {
        switch (random.nextInt(12)) {
            case 0 -> readRules();
            case 1 -> addPolygon();
            case 2 -> addPlace();
            default -> setVoltage(random.nextInt(model.shapes.size()));
        }
    }

    private void setVoltage(int polygon) {
        long[] volt = model.shapes.get(polygon).volt();
        long next = random.nextInt(9) - 4;
        check.due("voltage", deck.voltage(polygon, next), next != volt[0]);
        volt[0] = next;
    }

    // ---- rules

    private void readRules() {
        StringBuilder text = new StringBuilder();
        model.laws.clear();
        int size = 1 + random.nextInt(12);
        for (int i = 0; i < size; i++) {
            Model.Law law = law();
            boolean two = List.of("space", "corner", "enclose", "overlap").contains(law.kind());
            text.append((char) ('a' + i)).append('=').append(law.kind()).append(' ').append(law.one());
            text.append(two ? " " + law.other() : "").append('<').append(law.limit());
            List<String> conditions = new ArrayList<>();
            conditions.add(law.run() < 0 ? "" : "run " + law.run());
            conditions.add(law.volt() < 0 ? "" : " volt " + law.volt());
            conditions.add(law.end() < 0 ? "" : "\nend" + law.end());
            Collections.shuffle(conditions, random);
            text.append(String.join("", conditions)).append(';');
            model.laws.add(law);
        }
        check.due("read " + text, Check.read(deck, text.toString()), size);
        check.due("kinds", deck.count(1), model.laws.stream().map(Model.Law::kind).distinct().count());
        model.waived.clear();
        latest = null;
        spent += text.length() / 4 + 3;
    }

    private Model.Law law() {
        String kind = KINDS[random.nextInt(KINDS.length)];
        boolean run = List.of("width", "notch", "space", "enclose", "overlap").contains(kind);
        boolean volt = List.of("space", "corner").contains(kind);
        long limit = switch (kind) {
            case "density" -> random.nextInt(120);
            case "area" -> random.nextInt(40);
            default -> random.nextInt(10);
        };
        return new Model.Law(kind, random.nextInt(layers), random.nextInt(layers), limit,
                condition(run, 6), condition(volt, 6), condition(kind.equals("space"), 8));
    }

    private long condition(boolean may, int below) {
        return may && random.nextInt(3) == 0 ? random.nextInt(below) : -1;
    }

    // ---- layouts

    private void addPolygon() {
        int cell = random.nextInt(model.cells);
        int layer = random.nextInt(layers);
        List<long[]> corners = random.nextInt(3) == 0 ? box() : random.nextInt(6) == 0 ? walk() : comb();
        int polygon = deck.polygon(cell, layer);
        check.due("polygon", polygon, model.shapes.size());
        List<long[]> taken = new ArrayList<>();
        for (long[] corner : corners) {
            long[] before = taken.isEmpty() ? null : taken.get(taken.size() - 1);
            boolean due = before == null || (before[0] == corner[0]) != (before[1] == corner[1]);
            check.due("corner", deck.corner(polygon, corner[0], corner[1]), due);
            if (due) {
                taken.add(corner);
            }
        }
        model.shapes.add(new Model.Shape(cell, layer, taken, new long[1]));
        setVoltage(polygon);
        spent += corners.size() + 2;
    }

    private List<long[]> box() {
        long x = random.nextInt(16) - 8;
        long y = random.nextInt(16) - 8;
        long wide = 1 + random.nextInt(6);
        long high = 1 + random.nextInt(6);
        return disguise(List.of(new long[] {x, y}, new long[] {x + wide, y}, new long[] {x + wide, y + high}, new long[] {x, y + high}));
    }

    /** Columns side by side, some with a notch below: right ones with up to 16 corners, if the columns differ. */
    private List<long[]> comb() {
        int columns = 2 + random.nextInt(6);
        List<long[]> corners = new ArrayList<>();
        long x = random.nextInt(12) - 6;
        long base = random.nextInt(12) - 6;
        corners.add(new long[] {x, base});
        long high = -1;
        for (int i = 0; i < columns; i++) {
            long next = 1 + random.nextInt(6);
            high = next == high ? next + 1 : next;
            corners.add(new long[] {x, base + high});
            x += 1 + random.nextInt(3);
            corners.add(new long[] {x, base + high});
        }
        corners.add(new long[] {x, base});
        return disguise(corners);
    }

    /** The same polygon turned, begun anywhere and gone round either way. */
    private List<long[]> disguise(List<long[]> corners) {
        List<long[]> changed = new ArrayList<>();
        int turns = random.nextInt(4);
        for (long[] corner : corners) {
            long[] point = corner.clone();
            for (int i = 0; i < turns; i++) {
                point = new long[] {-point[1], point[0]};
            }
            changed.add(point);
        }
        Collections.rotate(changed, random.nextInt(changed.size()));
        if (random.nextBoolean()) {
            Collections.reverse(changed);
        }
        return changed;
    }

    private List<long[]> walk() {
        List<long[]> corners = new ArrayList<>();
        long x = random.nextInt(5);
        long y = random.nextInt(5);
        int size = 3 + random.nextInt(8);
        for (int i = 0; i < size; i++) {
            corners.add(new long[] {x, y});
            if (random.nextInt(8) == 0 || i % 2 == 0) {
                x = random.nextInt(6);
            } else {
                y = random.nextInt(6);
            }
        }
        return corners;
    }

    private void addPlace() {
        int cell = random.nextInt(model.cells);
        int of = random.nextInt(model.cells);
        long x = random.nextInt(21) - 10;
        long y = random.nextInt(21) - 10;
        int turn = random.nextInt(8);
        boolean repeat = !model.places.isEmpty() && random.nextInt(8) == 0;
        Model.Place place = repeat ? model.places.get(random.nextInt(model.places.size())) : new Model.Place(cell, of, x, y, turn);
        boolean due = !model.isIn(place.cell(), place.of());
        int got = deck.place(place.cell(), place.of(), place.x(), place.y(), place.turn());
        check.due("place", got, due ? model.places.size() : -1);
        if (due) {
            model.places.add(place);
        }
    }

    // ---- questions

    private void askOccurrences() {
        int cell = random.nextInt(model.cells);
        List<Model.Occurrence> due = model.occurrences(cell);
        if (due == null) {
            check.dueThrows("occurrences", UnsupportedOperationException.class, () -> deck.occurrences(cell));
        } else {
            check.due("occurrences", deck.occurrences(cell), due.size());
        }
    }

    private void runOne() {
        int rule = random.nextInt(model.laws.size());
        int cell = random.nextInt(model.cells);
        boolean flat = random.nextBoolean();
        List<long[]> due = model.run(rule, cell, flat);
        if (due == null) {
            check.dueThrows("run", UnsupportedOperationException.class, () -> deck.run(rule, cell, flat));
            return;
        }
        check.due("run " + model.laws.get(rule), deck.run(rule, cell, flat), due.size());
        int size = Math.min(due.size(), deck.count(2));
        int step = 1 + size / MOST_ASKED;
        for (int k = random.nextInt(step); k < size; k += step) {
            compare("violation " + k + " of " + model.laws.get(rule), k, due.get(k));
        }
        latest = due;
        latestRule = rule;
        latestFlat = flat;
    }

    private void compare(String what, int k, long[] row) {
        StringBuilder text = new StringBuilder();
        for (int i = 0; i <= 6; i++) {
            text.append(row[i]).append(' ');
        }
        check.due(what, Check.told(deck, k), text.append('@').append(row[7]).toString());
        told++;
        spent += 8;
    }

    private void waiveOne() {
        if (latest == null || latest.isEmpty()) {
            check.dueThrows("waive", IndexOutOfBoundsException.class, () -> deck.waive(0));
            return;
        }
        int k = random.nextInt(latest.size());
        List<Long> waiver = Model.waiver(latestRule, latest.get(k));
        if (model.waived.size() >= 40 && !model.waived.contains(waiver)) {
            check.dueThrows("waive", IllegalStateException.class, () -> deck.waive(k));
        } else {
            check.due("waive " + Arrays.toString(latest.get(k)), deck.waive(k), model.waived.add(waiver));
        }
    }

    private void askChanged() {
        long x0 = random.nextInt(30) - 15;
        long y0 = random.nextInt(30) - 15;
        long x1 = x0 + random.nextInt(10);
        long y1 = y0 + random.nextInt(10);
        if (latest == null || !latestFlat) {
            check.dueThrows("changed", IllegalStateException.class, () -> deck.changed(x0, y0, x1, y1));
            return;
        }
        long due = 0;
        for (long[] row : latest) {
            boolean inX = Math.max(row[0], x0) <= Math.min(row[2], x1);
            boolean inY = Math.max(row[1], y0) <= Math.min(row[3], y1);
            due += inX && inY ? 1 : 0;
        }
        check.due("changed", deck.changed(x0, y0, x1, y1), due);
    }

    private void askSame() {
        int rule = random.nextInt(model.laws.size());
        int cell = random.nextInt(model.cells);
        Boolean due = model.same(rule, cell);
        if (due == null) {
            check.dueThrows("same", UnsupportedOperationException.class, () -> deck.same(rule, cell));
        } else {
            check.due("same", deck.same(rule, cell), due);
            check.due("the model has it the same", due, true);
        }
    }
}
