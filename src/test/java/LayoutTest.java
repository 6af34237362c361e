import java.util.ArrayList;
import java.util.List;
import java.util.Random;

/** Promises 1, 5 to 9 and 17: cells, polygons, corners, voltages, places and occurrences. */
public final class LayoutTest {
    public static void main(String[] args) {
        Check check = new Check();
        isEmptyWhenNew(check);
        makesCells(check);
        makesPolygons(check);
        takesCorners(check);
        knowsRightPolygons(check);
        knowsRightWalks(check);
        setsVoltages(check);
        makesPlaces(check);
        refusesCellsInThemselves(check);
        countsOccurrences(check);
        check.end();
    }

    private static void isEmptyWhenNew(Check check) {
        RuleDeck deck = new RuleDeck(2);
        for (int what = 0; what <= 4; what++) {
            check.due("count(" + what + ")", deck.count(what), 0);
        }
        check.dueThrows("count(-1)", IndexOutOfBoundsException.class, () -> deck.count(-1));
        check.dueThrows("count(5)", IndexOutOfBoundsException.class, () -> deck.count(5));
        check.dueThrows("occurrences(0)", IndexOutOfBoundsException.class, () -> deck.occurrences(0));
        check.dueThrows("polygon(0, 0)", IndexOutOfBoundsException.class, () -> deck.polygon(0, 0));
        check.dueThrows("corner(0)", IndexOutOfBoundsException.class, () -> deck.corner(0, 0, 0));
        check.dueThrows("voltage(0)", IndexOutOfBoundsException.class, () -> deck.voltage(0, 0));
        check.dueThrows("place(0, 0)", IndexOutOfBoundsException.class, () -> deck.place(0, 0, 0, 0, 0));
        check.dueThrows("run(0, 0)", IndexOutOfBoundsException.class, () -> deck.run(0, 0, true));
        check.dueThrows("same(0, 0)", IndexOutOfBoundsException.class, () -> deck.same(0, 0));
        check.dueThrows("violation(0, 0)", IndexOutOfBoundsException.class, () -> deck.violation(0, 0));
        check.dueThrows("cellOf(0)", IndexOutOfBoundsException.class, () -> deck.cellOf(0));
        check.dueThrows("waive(0)", IndexOutOfBoundsException.class, () -> deck.waive(0));
        check.dueThrows("changed", IllegalStateException.class, () -> deck.changed(0, 0, 0, 0));
    }

    private static void makesCells(Check check) {
        RuleDeck deck = new RuleDeck(1);
        for (int i = 0; i < 16; i++) {
            check.due("cell()", deck.cell(), i);
        }
        check.dueThrows("cell 16", IllegalStateException.class, deck::cell);
        check.due("the last one has nothing", deck.occurrences(15), 0);
        check.dueThrows("occurrences(16)", IndexOutOfBoundsException.class, () -> deck.occurrences(16));
        check.dueThrows("occurrences(-1)", IndexOutOfBoundsException.class, () -> deck.occurrences(-1));
    }

    private static void makesPolygons(Check check) {
        int[][] layers = {{0, 1}, {3, 3}, {70000, 65536}};
        for (int[] one : layers) {
            RuleDeck deck = new RuleDeck(one[0]);
            deck.cell();
            check.due("polygon on the last layer", deck.polygon(0, one[1] - 1), 0);
            check.dueThrows("no such layer", IndexOutOfBoundsException.class, () -> deck.polygon(0, one[1]));
            check.dueThrows("no such layer", IndexOutOfBoundsException.class, () -> deck.polygon(0, -1));
            check.dueThrows("no such cell", IndexOutOfBoundsException.class, () -> deck.polygon(1, 0));
            check.dueThrows("no such cell", IndexOutOfBoundsException.class, () -> deck.polygon(-1, 0));
            for (int i = 1; i < 64; i++) {
                check.due("polygon", deck.polygon(0, 0), i);
            }
            check.dueThrows("polygon 64", IllegalStateException.class, () -> deck.polygon(0, 0));
            check.dueThrows("no such cell comes first", IndexOutOfBoundsException.class, () -> deck.polygon(1, 0));
            check.due("the last one", deck.corner(63, 0, 0), true);
            check.dueThrows("corner(64)", IndexOutOfBoundsException.class, () -> deck.corner(64, 0, 0));
        }
    }

    private static void takesCorners(Check check) {
        RuleDeck deck = new RuleDeck(1);
        deck.cell();
        deck.polygon(0, 0);
        check.due("the first one", deck.corner(0, 10000, -10000), true);
        check.due("the same again", deck.corner(0, 10000, -10000), false);
        check.due("both others", deck.corner(0, 9999, -9999), false);
        check.due("another x", deck.corner(0, -10000, -10000), true);
        check.due("both others than the latest", deck.corner(0, 10000, 10000), false);
        check.due("another y", deck.corner(0, -10000, 10000), true);
        check.due("no polygon yet", deck.occurrences(0), 0);
        check.due("back", deck.corner(0, 10000, 10000), true);
        check.due("a polygon", deck.occurrences(0), 1);
        long[] out = {-10001, 10001, Long.MIN_VALUE, Long.MAX_VALUE, (1L << 32)};
        for (long far : out) {
            check.dueThrows("x " + far, IllegalArgumentException.class, () -> deck.corner(0, far, 0));
            check.dueThrows("y " + far, IllegalArgumentException.class, () -> deck.corner(0, 0, far));
            check.dueThrows("no polygon comes first", IndexOutOfBoundsException.class, () -> deck.corner(1, far, 0));
            check.dueThrows("no polygon comes first", IndexOutOfBoundsException.class, () -> deck.corner(-1, far, 0));
        }
        check.due("it is the polygon still", deck.occurrences(0), 1);
        for (int i = 0; i < 12; i++) {
            check.due("corner", deck.corner(0, i % 2 == 0 ? 1 : 10000, 10000), true);
        }
        check.dueThrows("corner 17", IllegalStateException.class, () -> deck.corner(0, 0, 10000));
        check.dueThrows("that comes first", IllegalStateException.class, () -> deck.corner(0, 10001, 10000));
        check.dueThrows("that comes first", IllegalStateException.class, () -> deck.corner(0, 10000, 10000));
    }

    private static void dueRight(Check check, String what, boolean right, long... corners) {
        RuleDeck deck = new RuleDeck(1);
        deck.cell();
        Check.polygon(deck, 0, 0, corners);
        check.due(what, deck.occurrences(0), right ? 1 : 0);
    }

    private static void knowsRightPolygons(Check check) {
        dueRight(check, "three corners", false, 0, 0, 2, 0, 2, 2);
        dueRight(check, "a box", true, 0, 0, 2, 0, 2, 2, 0, 2);
        dueRight(check, "a box the other way", true, 0, 0, 0, 2, 2, 2, 2, 0);
        dueRight(check, "the last one like the first one", false, 0, 0, 2, 0, 2, 2, 0, 2, 0, 0);
        dueRight(check, "the last one other in both", false, 0, 0, 2, 0, 2, 2, 1, 2);
        dueRight(check, "a side in two parts", false, 0, 0, 1, 0, 2, 0, 2, 2, 0, 2);
        dueRight(check, "a side in two parts at the start", false, 1, 0, 2, 0, 2, 2, 0, 2, 0, 0);
        dueRight(check, "there and back", false, 0, 0, 2, 0, 1, 0, 1, 2, 0, 2);
        dueRight(check, "all on a line", false, 0, 0, 2, 0, 4, 0, 6, 0);
        dueRight(check, "a cross of sides", false, 0, 0, 6, 0, 6, 6, 2, 6, 2, 3, 8, 3, 8, 8, 0, 8);
        dueRight(check, "an L", true, 0, 0, 4, 0, 4, 2, 2, 2, 2, 4, 0, 4);
        dueRight(check, "corners that touch", false, 0, 0, 2, 0, 2, 2, 4, 2, 4, 4, 2, 4, 2, 2, 0, 2);
        dueRight(check, "a corner on a side", false, 0, 0, 6, 0, 6, 4, 4, 4, 4, 0, 2, 0, 2, 4, 0, 4);
        dueRight(check, "a side on a side", false, 0, 0, 6, 0, 6, 6, 4, 6, 4, 2, 6, 2, 6, 1, 0, 1);
        dueRight(check, "a corner that meets a side's end", false, 0, 0, 4, 0, 4, 2, 2, 2, 2, 0, 1, 0, 1, 2, 0, 2);
        dueRight(check, "sixteen corners", true,
                0, 0, 7, 0, 7, 1, 6, 1, 6, 2, 5, 2, 5, 3, 4, 3, 4, 4, 3, 4, 3, 5, 2, 5, 2, 6, 1, 6, 1, 7, 0, 7);
        RuleDeck deck = new RuleDeck(1);
        deck.cell();
        Check.box(deck, 0, 0, 0, 0, 2, 2);
        check.due("a corner more", deck.corner(0, 0, 1), true);
        check.due("makes it no polygon", deck.occurrences(0), 0);
    }

    /** Walks at random on a small grid, which cross and touch themselves in every way. */
    private static void knowsRightWalks(Check check) {
        Random random = new Random(7);
        int right = 0;
        for (int round = 0; round < 800; round++) {
            RuleDeck deck = new RuleDeck(1);
            deck.cell();
            int before = 0;
            for (int polygon = 0; polygon < 64; polygon++) {
                deck.polygon(0, 0);
                boolean due = Model.isRight(walk(random, deck, polygon));
                before += due ? 1 : 0;
                check.due("occurrences with one walk more", deck.occurrences(0), before);
            }
            right += before;
        }
        check.due("many were right", right > 2000, true);
    }

    /** Up or down and to and fro in turns, back to the first y at the end. */
    private static List<long[]> walk(Random random, RuleDeck deck, int polygon) {
        List<long[]> taken = new ArrayList<>();
        int last = 3 + 2 * random.nextInt(5);
        long[] at = {random.nextInt(4), random.nextInt(4)};
        for (int i = 0; i <= last; i++) {
            if (i > 0) {
                at[i % 2] = random.nextInt(4);
            }
            if (i == last) {
                at = new long[] {taken.get(taken.size() - 1)[0], taken.get(0)[1]};
            }
            if (deck.corner(polygon, at[0], at[1])) {
                taken.add(at.clone());
            }
        }
        return taken;
    }

    private static void setsVoltages(Check check) {
        RuleDeck deck = new RuleDeck(1);
        deck.cell();
        deck.polygon(0, 0);
        check.due("it was 0", deck.voltage(0, 0), false);
        check.due("another one", deck.voltage(0, 1000000), true);
        check.due("the same", deck.voltage(0, 1000000), false);
        check.due("another one", deck.voltage(0, -1000000), true);
        long[] out = {1000001, -1000001, Long.MAX_VALUE, Long.MIN_VALUE, 1L << 32};
        for (long v : out) {
            check.dueThrows("voltage " + v, IllegalArgumentException.class, () -> deck.voltage(0, v));
            check.dueThrows("no polygon comes first", IndexOutOfBoundsException.class, () -> deck.voltage(1, v));
        }
        check.dueThrows("no polygon", IndexOutOfBoundsException.class, () -> deck.voltage(-1, 0));
        check.due("it stayed", deck.voltage(0, -1000000), false);
    }

    private static void makesPlaces(Check check) {
        RuleDeck deck = new RuleDeck(1);
        deck.cell();
        deck.cell();
        check.due("place", deck.place(0, 1, 10000, -10000, 7), 0);
        check.dueThrows("no such cell", IndexOutOfBoundsException.class, () -> deck.place(2, 1, 0, 0, 0));
        check.dueThrows("no such cell", IndexOutOfBoundsException.class, () -> deck.place(0, 2, 0, 0, 0));
        check.dueThrows("no such cell", IndexOutOfBoundsException.class, () -> deck.place(-1, 1, 0, 0, 0));
        check.dueThrows("no such cell", IndexOutOfBoundsException.class, () -> deck.place(0, -1, 0, 0, 0));
        check.dueThrows("x", IllegalArgumentException.class, () -> deck.place(0, 1, 10001, 0, 0));
        check.dueThrows("y", IllegalArgumentException.class, () -> deck.place(0, 1, 0, -10001, 0));
        check.dueThrows("x", IllegalArgumentException.class, () -> deck.place(0, 1, 1L << 32, 0, 0));
        check.dueThrows("turn", IllegalArgumentException.class, () -> deck.place(0, 1, 0, 0, 8));
        check.dueThrows("turn", IllegalArgumentException.class, () -> deck.place(0, 1, 0, 0, -1));
        check.dueThrows("no cell comes first", IndexOutOfBoundsException.class, () -> deck.place(0, 2, 10001, 0, 8));
        check.dueThrows("the turn comes before the cell in itself", IllegalArgumentException.class, () -> deck.place(0, 0, 0, 0, 8));
        check.due("a cell in itself takes no place", deck.place(1, 0, 0, 0, 0), -1);
        for (int i = 1; i < 32; i++) {
            check.due("place", deck.place(0, 1, 0, 0, i % 8), i);
        }
        check.dueThrows("place 32", IllegalStateException.class, () -> deck.place(0, 1, 0, 0, 0));
        check.dueThrows("that comes before the turn", IllegalStateException.class, () -> deck.place(0, 1, 0, 0, 8));
        check.dueThrows("that comes before the cell in itself", IllegalStateException.class, () -> deck.place(0, 0, 0, 0, 0));
        check.dueThrows("no cell comes first", IndexOutOfBoundsException.class, () -> deck.place(0, 2, 0, 0, 0));
    }

    private static void refusesCellsInThemselves(Check check) {
        RuleDeck deck = new RuleDeck(1);
        for (int i = 0; i < 16; i++) {
            deck.cell();
        }
        check.due("itself", deck.place(5, 5, 0, 0, 0), -1);
        for (int i = 0; i < 15; i++) {
            // Built from below for one half, from above for the other one.
            int cell = i < 8 ? 14 - i : i - 8;
            check.due("a chain", deck.place(cell, cell + 1, 0, 0, 0), i);
        }
        check.due("over all others", deck.place(15, 0, 0, 0, 0), -1);
        check.due("over one", deck.place(9, 8, 0, 0, 0), -1);
        check.due("over some", deck.place(9, 3, 0, 0, 0), -1);
        check.due("twice is no harm", deck.place(0, 15, 0, 0, 0), 15);
        check.due("nor the same again", deck.place(0, 15, 0, 0, 0), 16);
    }

    private static void countsOccurrences(Check check) {
        RuleDeck deck = Check.deck(1, 16, "a=count 0<200;");
        Check.box(deck, 15, 0, 0, 0, 1, 1);
        deck.polygon(15, 0);
        for (int i = 0; i < 30; i++) {
            deck.place(i / 2, i / 2 + 1, 3, 0, i % 8);
        }
        for (int cell = 15; cell >= 9; cell--) {
            check.due("doubled", deck.occurrences(cell), 1 << (15 - cell));
        }
        for (int i = 8; i >= 0; i--) {
            int cell = i;
            check.dueThrows("above 100", UnsupportedOperationException.class, () -> deck.occurrences(cell));
            check.dueThrows("above 100", UnsupportedOperationException.class, () -> deck.run(0, cell, true));
            check.dueThrows("above 100", UnsupportedOperationException.class, () -> deck.run(0, cell, false));
            check.dueThrows("above 100", UnsupportedOperationException.class, () -> deck.same(0, cell));
        }
        check.due("none was run", deck.count(2), 0);
        for (int i = 0; i < 36; i++) {
            Check.box(deck, 9, 0, 0, 2 * i, 1, 2 * i + 1);
        }
        check.due("100", deck.occurrences(9), 100);
        check.due("100", Check.run(deck, 0, 9, false).contains(" -1 -1 100 @9"), true);
        Check.box(deck, 9, 0, 0, 0, 1, 1);
        check.dueThrows("101", UnsupportedOperationException.class, () -> deck.occurrences(9));
        check.dueThrows("no such cell comes first", IndexOutOfBoundsException.class, () -> deck.run(0, 16, true));
        check.due("cells of nothing may be in others any number of times", emptyTower().occurrences(0), 0);
    }

    private static RuleDeck emptyTower() {
        RuleDeck deck = new RuleDeck(1);
        for (int i = 0; i < 11; i++) {
            deck.cell();
        }
        for (int i = 0; i < 30; i++) {
            deck.place(i / 3, i / 3 + 1, 0, 0, 0);
        }
        return deck;
    }
}
