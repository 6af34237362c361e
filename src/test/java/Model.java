import java.util.ArrayList;
import java.util.Arrays;
import java.util.Comparator;
import java.util.HashSet;
import java.util.LinkedHashSet;
import java.util.List;
import java.util.Set;
import java.util.TreeSet;

/**
 * A second RuleDeck after the document's words, slow on purpose: it looks at the squares around sides
 * and corners to see which way they face, goes over all pairs of occurrences of the cell that is asked,
 * and finds the lowest cell of each pair by the places on the way down.
 */
final class Model {
    static final int RIGHT = 0;
    static final int UP = 1;
    static final int LEFT = 2;
    static final int DOWN = 3;

    /** A rule as its words tell it; -1 for a condition that is not there. */
    record Law(String kind, int one, int other, long limit, long run, long volt, long end) { }

    record Shape(int cell, int layer, List<long[]> corners, long[] volt) { }

    record Place(int cell, int of, long x, long y, int turn) { }

    /** A polygon, and the places over which it comes, from the cell that is asked downwards. */
    record Occurrence(int polygon, List<Integer> way) { }

    record Side(int face, long x0, long y0, long x1, long y1) {
        long length() {
            return x1 - x0 + y1 - y0;
        }
    }

    record Outer(Set<Integer> faces, long x, long y) { }

    int cells = 0;
    final List<Shape> shapes = new ArrayList<>();
    final List<Place> places = new ArrayList<>();
    final List<Law> laws = new ArrayList<>();
    final Set<List<Long>> waived = new HashSet<>();

    // ---- layouts

    static boolean isRight(List<long[]> corners) {
        int size = corners.size();
        if (size < 4) {
            return false;
        }
        List<Set<List<Long>>> points = new ArrayList<>();
        List<Boolean> lies = new ArrayList<>();
        for (int i = 0; i < size; i++) {
            long[] from = corners.get(i);
            long[] to = corners.get((i + 1) % size);
            if ((from[0] == to[0]) == (from[1] == to[1])) {
                return false;
            }
            lies.add(from[1] == to[1]);
            points.add(pointsBetween(from, to));
        }
        for (int i = 0; i < size; i++) {
            if (lies.get(i).equals(lies.get((i + 1) % size))) {
                return false;
            }
            for (int j = 0; j < size; j++) {
                Set<List<Long>> common = new HashSet<>(points.get(i));
                common.retainAll(points.get(j));
                boolean next = j == (i + 1) % size || i == (j + 1) % size;
                if (i != j && common.size() != (next ? 1 : 0)) {
                    return false;
                }
            }
        }
        return true;
    }

    private static Set<List<Long>> pointsBetween(long[] from, long[] to) {
        Set<List<Long>> points = new HashSet<>();
        for (long x = Math.min(from[0], to[0]); x <= Math.max(from[0], to[0]); x++) {
            for (long y = Math.min(from[1], to[1]); y <= Math.max(from[1], to[1]); y++) {
                points.add(List.of(x, y));
            }
        }
        return points;
    }

    /** Null if there are more than may be. */
    List<Occurrence> occurrences(int cell) {
        List<Occurrence> found = new ArrayList<>();
        return addOccurrences(cell, new ArrayList<>(), found) ? found : null;
    }

    private boolean addOccurrences(int cell, List<Integer> way, List<Occurrence> found) {
        for (int i = 0; i < shapes.size(); i++) {
            if (shapes.get(i).cell == cell && isRight(shapes.get(i).corners)) {
                found.add(new Occurrence(i, new ArrayList<>(way)));
            }
        }
        if (found.size() > 100) {
            return false;
        }
        for (int i = 0; i < places.size(); i++) {
            if (places.get(i).cell == cell) {
                way.add(i);
                boolean fits = addOccurrences(places.get(i).of, way, found);
                way.remove(way.size() - 1);
                if (!fits) {
                    return false;
                }
            }
        }
        return true;
    }

    boolean isIn(int cell, int other) {
        if (cell == other) {
            return true;
        }
        for (Place place : places) {
            if (place.cell == other && isIn(cell, place.of)) {
                return true;
            }
        }
        return false;
    }

    private static long[] put(Place place, long[] point) {
        long x = point[0];
        long y = place.turn >= 4 ? -point[1] : point[1];
        for (int i = 0; i < place.turn % 4; i++) {
            long old = x;
            x = -y;
            y = old;
        }
        return new long[] {x + place.x, y + place.y};
    }

    /** A point so many places down a way, as it lies at another depth. */
    private long[] lift(List<Integer> way, int from, int to, long[] point) {
        long[] lifted = point;
        for (int depth = from; depth > to; depth--) {
            lifted = put(places.get(way.get(depth - 1)), lifted);
        }
        return lifted;
    }

    private List<long[]> cornersAt(Occurrence occurrence, int depth) {
        List<long[]> lifted = new ArrayList<>();
        for (long[] corner : shapes.get(occurrence.polygon).corners) {
            lifted.add(lift(occurrence.way, occurrence.way.size(), depth, corner));
        }
        return lifted;
    }

    // ---- shapes; points inside are asked in quarters of a unit

    private static boolean hasInside(List<long[]> corners, long x4, long y4) {
        boolean inside = false;
        for (int i = 0; i < corners.size(); i++) {
            long[] a = corners.get(i);
            long[] b = corners.get((i + 1) % corners.size());
            boolean beside = a[0] == b[0] && a[0] * 4 > x4;
            if (beside && Math.min(a[1], b[1]) * 4 <= y4 && y4 < Math.max(a[1], b[1]) * 4) {
                inside = !inside;
            }
        }
        return inside;
    }

    private static List<Side> sides(List<long[]> corners) {
        List<Side> found = new ArrayList<>();
        for (int i = 0; i < corners.size(); i++) {
            long[] a = corners.get(i);
            long[] b = corners.get((i + 1) % corners.size());
            long x4 = (a[0] + b[0]) * 2;
            long y4 = (a[1] + b[1]) * 2;
            int face;
            if (a[0] == b[0]) {
                face = hasInside(corners, x4 - 1, y4) ? RIGHT : LEFT;
            } else {
                face = hasInside(corners, x4, y4 - 1) ? UP : DOWN;
            }
            found.add(new Side(face, Math.min(a[0], b[0]), Math.min(a[1], b[1]), Math.max(a[0], b[0]), Math.max(a[1], b[1])));
        }
        return found;
    }

    private static List<Outer> outers(List<long[]> corners) {
        List<Outer> found = new ArrayList<>();
        List<Side> sides = sides(corners);
        for (int i = 0; i < corners.size(); i++) {
            long x = corners.get(i)[0];
            long y = corners.get(i)[1];
            int quarters = 0;
            for (int dx = -1; dx <= 1; dx += 2) {
                for (int dy = -1; dy <= 1; dy += 2) {
                    quarters += hasInside(corners, x * 4 + dx, y * 4 + dy) ? 1 : 0;
                }
            }
            if (quarters == 1) {
                int before = (i + corners.size() - 1) % corners.size();
                found.add(new Outer(Set.of(sides.get(before).face, sides.get(i).face), x, y));
            }
        }
        return found;
    }

    private static long[] boxOf(List<long[]> corners) {
        long[] box = {Long.MAX_VALUE, Long.MAX_VALUE, Long.MIN_VALUE, Long.MIN_VALUE};
        for (long[] corner : corners) {
            box[0] = Math.min(box[0], corner[0]);
            box[1] = Math.min(box[1], corner[1]);
            box[2] = Math.max(box[2], corner[0]);
            box[3] = Math.max(box[3], corner[1]);
        }
        return box;
    }

    private static long areaOf(List<long[]> corners) {
        long[] box = boxOf(corners);
        long squares = 0;
        for (long x = box[0]; x < box[2]; x++) {
            for (long y = box[1]; y < box[3]; y++) {
                squares += hasInside(corners, x * 4 + 2, y * 4 + 2) ? 1 : 0;
            }
        }
        return squares;
    }

    // ---- violations: x0 y0 x1 y1 first second measure cell, and the box there

    /** Null if the limits do not allow it. */
    List<long[]> run(int number, int cell, boolean flat) {
        List<Occurrence> asked = occurrences(cell);
        if (asked == null) {
            return null;
        }
        Law law = laws.get(number);
        List<long[]> found = new ArrayList<>();
        if (law.kind.equals("density") || law.kind.equals("count")) {
            judgeWhole(law, cell, asked, found);
        } else if (flat) {
            judgeAll(law, cell, asked, false, found);
        } else {
            for (int inner = 0; inner < cells; inner++) {
                if (isIn(inner, cell)) {
                    judgeAll(law, inner, occurrences(inner), true, found);
                }
            }
        }
        if (found.size() > 1500) {
            return null;
        }
        found.removeIf(row -> waived.contains(waiver(number, row)));
        sort(found, flat);
        return flat ? found : withoutRepeats(found);
    }

    static List<Long> waiver(int rule, long[] row) {
        return List.of((long) rule, row[7], row[8], row[9], row[10], row[11], row[4], row[5]);
    }

    private static void sort(List<long[]> rows, boolean flat) {
        Comparator<long[]> order = Arrays::compare;
        if (!flat) {
            order = Comparator.<long[]>comparingLong(row -> row[7]).thenComparing(order);
        }
        rows.sort(order);
    }

    private static List<long[]> withoutRepeats(List<long[]> rows) {
        Set<String> seen = new LinkedHashSet<>();
        List<long[]> kept = new ArrayList<>();
        for (long[] row : rows) {
            if (seen.add(Arrays.toString(row))) {
                kept.add(row);
            }
        }
        return kept;
    }

    private void judgeWhole(Law law, int cell, List<Occurrence> all, List<long[]> found) {
        long areas = 0;
        long many = 0;
        List<long[]> corners = new ArrayList<>();
        for (Occurrence one : all) {
            corners.addAll(cornersAt(one, 0));
            if (shapes.get(one.polygon).layer == law.one) {
                areas += areaOf(shapes.get(one.polygon).corners);
                many++;
            }
        }
        long[] box = all.isEmpty() ? new long[4] : boxOf(corners);
        long measure = many;
        if (law.kind.equals("density")) {
            measure = all.isEmpty() ? 0 : Math.floorDiv(areas * 100, (box[2] - box[0]) * (box[3] - box[1]));
        }
        if (measure < law.limit) {
            found.add(new long[] {box[0], box[1], box[2], box[3], -1, -1, measure, cell, box[0], box[1], box[2], box[3]});
        }
    }

    private void judgeAll(Law law, int cell, List<Occurrence> all, boolean onlyHere, List<long[]> found) {
        for (Occurrence one : all) {
            if (!onlyHere || one.way.isEmpty()) {
                judgeOne(law, one, found);
            }
        }
        for (int i = 0; i < all.size(); i++) {
            for (int j = 0; j < all.size(); j++) {
                List<Integer> way = commonWay(all.get(i).way, all.get(j).way);
                if (i != j && (!onlyHere || way.isEmpty())) {
                    judgePair(law, cell, all.get(i), all.get(j), found);
                }
            }
        }
    }

    private static List<Integer> commonWay(List<Integer> one, List<Integer> other) {
        int depth = 0;
        while (depth < one.size() && depth < other.size() && one.get(depth).equals(other.get(depth))) {
            depth++;
        }
        return one.subList(0, depth);
    }

    /** Tells a box that is met behind a way of places. */
    private void tell(List<Integer> way, int metIn, long[] box, long first, long second, long measure, List<long[]> found) {
        long[] a = lift(way, way.size(), 0, new long[] {box[0], box[1]});
        long[] b = lift(way, way.size(), 0, new long[] {box[2], box[3]});
        found.add(new long[] {
            Math.min(a[0], b[0]), Math.min(a[1], b[1]), Math.max(a[0], b[0]), Math.max(a[1], b[1]),
            first, second, measure, metIn, box[0], box[1], box[2], box[3]});
    }

    private void judgeOne(Law law, Occurrence one, List<long[]> found) {
        Shape shape = shapes.get(one.polygon);
        if (shape.layer != law.one) {
            return;
        }
        List<Side> sides = sides(shape.corners);
        switch (law.kind) {
            case "area" -> tellBelow(law, one, boxOf(shape.corners), areaOf(shape.corners), found);
            case "corners" -> tellBelow(law, one, boxOf(shape.corners), shape.corners.size(), found);
            case "edge" -> {
                for (Side side : sides) {
                    tellBelow(law, one, new long[] {side.x0, side.y0, side.x1, side.y1}, side.length(), found);
                }
            }
            case "width", "notch" -> {
                for (Side a : sides) {
                    for (Side b : sides) {
                        boolean width = a.face == LEFT && b.face == RIGHT || a.face == DOWN && b.face == UP;
                        boolean notch = a.face == RIGHT && b.face == LEFT || a.face == UP && b.face == DOWN;
                        long[] gap = law.kind.equals("width") ? width ? gap(law, a, b) : null : notch ? gap(law, a, b) : null;
                        if (gap != null && gap[4] > 0 && gap[4] < law.limit) {
                            tell(one.way, shape.cell, gap, one.polygon, -1, gap[4], found);
                        }
                    }
                }
            }
            default -> { }
        }
    }

    private void tellBelow(Law law, Occurrence one, long[] box, long measure, List<long[]> found) {
        if (measure < law.limit) {
            tell(one.way, shapes.get(one.polygon).cell, box, one.polygon, -1, measure, found);
        }
    }

    /** The gap from a to b with the distance behind it, if they are over each other; below 0 if b is before a. */
    private static long[] gap(Law law, Side a, Side b) {
        long need = Math.max(1, law.run);
        if (a.x0 == a.x1) {
            long low = Math.max(a.y0, b.y0);
            long high = Math.min(a.y1, b.y1);
            return high - low < need ? null : new long[] {Math.min(a.x0, b.x0), low, Math.max(a.x0, b.x0), high, b.x0 - a.x0};
        }
        long left = Math.max(a.x0, b.x0);
        long right = Math.min(a.x1, b.x1);
        return right - left < need ? null : new long[] {left, Math.min(a.y0, b.y0), right, Math.max(a.y0, b.y0), b.y0 - a.y0};
    }

    /** One way round: a (or what is on the first layer) is of one, b of the other. */
    private void judgePair(Law law, int cell, Occurrence one, Occurrence other, List<long[]> found) {
        Shape shape = shapes.get(one.polygon);
        Shape otherShape = shapes.get(other.polygon);
        boolean straight = shape.layer == law.one && otherShape.layer == law.other;
        boolean crossed = shape.layer == law.other && otherShape.layer == law.one;
        List<Integer> way = commonWay(one.way, other.way);
        int metIn = way.isEmpty() ? cell : places.get(way.get(way.size() - 1)).of;
        List<long[]> corners = cornersAt(one, way.size());
        List<long[]> otherCorners = cornersAt(other, way.size());
        boolean volts = law.volt < 0 || Math.abs(shape.volt[0] - otherShape.volt[0]) >= law.volt;
        boolean boxes = overlap(boxOf(corners), boxOf(otherCorners));
        List<long[]> boxesHere = new ArrayList<>();
        if (law.kind.equals("space") && (straight || crossed) && volts) {
            addSpaces(law, sides(corners), sides(otherCorners), boxesHere);
        } else if (law.kind.equals("corner") && (straight || crossed) && volts) {
            addCorners(law, outers(corners), outers(otherCorners), boxesHere);
        } else if (law.kind.equals("enclose") && straight && boxes) {
            addEnclosings(law, sides(corners), sides(otherCorners), boxesHere);
        } else if (law.kind.equals("overlap") && (straight || crossed) && boxes) {
            addOverlaps(law, sides(corners), sides(otherCorners), boxesHere);
        }
        for (long[] box : boxesHere) {
            tell(way, metIn, box, one.polygon, other.polygon, box[4], found);
        }
    }

    private static boolean overlap(long[] a, long[] b) {
        return Math.max(a[0], b[0]) < Math.min(a[2], b[2]) && Math.max(a[1], b[1]) < Math.min(a[3], b[3]);
    }

    private static void addSpaces(Law law, List<Side> of, List<Side> ofOther, List<long[]> boxes) {
        for (Side a : of) {
            for (Side b : ofOther) {
                boolean opposite = a.face == RIGHT && b.face == LEFT || a.face == UP && b.face == DOWN;
                long[] gap = opposite ? gap(law, a, b) : null;
                boolean ends = law.end < 0 || a.length() < law.end || b.length() < law.end;
                if (gap != null && gap[4] > 0 && gap[4] < law.limit && ends) {
                    boxes.add(gap);
                }
            }
        }
    }

    private static void addOverlaps(Law law, List<Side> of, List<Side> ofOther, List<long[]> boxes) {
        for (Side a : of) {
            for (Side b : ofOther) {
                boolean faces = a.face == RIGHT && b.face == LEFT || a.face == UP && b.face == DOWN;
                long[] gap = faces ? gap(law, b, a) : null;
                if (gap != null && gap[4] > 0 && gap[4] < law.limit) {
                    boxes.add(gap);
                }
            }
        }
    }

    private static void addEnclosings(Law law, List<Side> of, List<Side> ofOther, List<long[]> boxes) {
        for (Side in : of) {
            for (Side out : ofOther) {
                long[] gap = in.face == out.face ? gap(law, in, out) : null;
                if (gap == null) {
                    continue;
                }
                gap[4] = in.face == RIGHT || in.face == UP ? gap[4] : -gap[4];
                if (gap[4] >= 0 && gap[4] < law.limit) {
                    boxes.add(gap);
                }
            }
        }
    }

    private static void addCorners(Law law, List<Outer> of, List<Outer> ofOther, List<long[]> boxes) {
        for (Outer a : of) {
            for (Outer b : ofOther) {
                boolean rising = a.faces.equals(Set.of(RIGHT, UP)) && b.faces.equals(Set.of(LEFT, DOWN)) && b.y > a.y;
                boolean falling = a.faces.equals(Set.of(RIGHT, DOWN)) && b.faces.equals(Set.of(LEFT, UP)) && b.y < a.y;
                long squares = (b.x - a.x) * (b.x - a.x) + (b.y - a.y) * (b.y - a.y);
                if ((rising || falling) && b.x > a.x && squares < law.limit * law.limit) {
                    boxes.add(new long[] {a.x, Math.min(a.y, b.y), b.x, Math.max(a.y, b.y), squares});
                }
            }
        }
    }

    /** What is told by cells, laid out at all places, against what is told flat; null if the limits do not allow it. */
    Boolean same(int rule, int cell) {
        List<long[]> flat = run(rule, cell, true);
        List<long[]> byCells = run(rule, cell, false);
        if (flat == null || byCells == null) {
            return null;
        }
        Set<String> told = new TreeSet<>();
        for (long[] row : flat) {
            told.add(Arrays.toString(Arrays.copyOf(row, 7)));
        }
        Set<String> laid = new TreeSet<>();
        layOut(byCells, cell, new ArrayList<>(), laid);
        return told.equals(laid);
    }

    private void layOut(List<long[]> byCells, int cell, List<Integer> way, Set<String> laid) {
        for (long[] row : byCells) {
            if (row[7] == cell) {
                List<long[]> lifted = new ArrayList<>();
                tell(way, cell, row, row[4], row[5], row[6], lifted);
                laid.add(Arrays.toString(Arrays.copyOf(lifted.get(0), 7)));
            }
        }
        for (int i = 0; i < places.size(); i++) {
            if (places.get(i).cell == cell) {
                way.add(i);
                layOut(byCells, places.get(i).of, way, laid);
                way.remove(way.size() - 1);
            }
        }
    }
}
