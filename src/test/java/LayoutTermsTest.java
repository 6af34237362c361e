import java.util.ArrayList;
import java.util.List;
import java.util.Random;

/** Terms, 1: a test for each sentence that bounds cells, polygons, corners, places, turns and occurrences. */
public final class LayoutTermsTest {
    private static final String TERMS = "Terms 1";
    private static final long[] STAIRS_OF_16 = {0, 0, 7, 0, 7, 1, 6, 1, 6, 2, 5, 2, 5, 3, 4, 3, 4, 4, 3, 4, 3, 5, 2, 5, 2, 6,
        1, 6, 1, 7, 0, 7};
    private static final long[] NOTCHED = {0, 0, 9, 0, 9, 6, 7, 6, 7, 2, 2, 2, 2, 6, 0, 6};
    private static final long[] OUT_OF_RANGE = {-10001, 10001, Long.MIN_VALUE, Long.MAX_VALUE, 1L << 32, -(1L << 32), (1L << 32) + 5};

    /** Where the box 1, 2, 4, 7 lies when it is turned in each way, then moved by 100 and 200. */
    private static final long[][] TURNED = {{101, 202, 104, 207}, {93, 201, 98, 204}, {96, 193, 99, 198}, {102, 196, 107, 199},
        {101, 193, 104, 198}, {102, 201, 107, 204}, {96, 202, 99, 207}, {93, 196, 98, 199}};

    public static void main(String[] args) {
        Check check = new Check();
        cells(check);
        polygons(check);
        layers(check);
        cornersOfOne(check);
        cornerRange(check);
        cornerSteps(check);
        voltageOfNewOnes(check);
        sides(check);
        rightFromFourCorners(check);
        rightIfItCloses(check);
        rightIfSidesTakeTurns(check);
        rightIfNoSidesTouch(check);
        rightWalks(check);
        othersAreNotThere(check);
        facesLookAway(check);
        places(check);
        placeRange(check);
        turns(check);
        turnsInTurns(check);
        turnedSides(check);
        turnedCorners(check);
        cellsInThemselves(check);
        occurrences(check);
        deepest(check);
        meetings(check);
        check.end();
    }

    private static void cells(Check check) {
        check.by(TERMS, "CELLS 0 .. 15.");
        RuleDeck deck = new RuleDeck(1);
        check.dueNoSuch("no cell 0 yet", () -> deck.occurrences(0));
        for (int i = 0; i < 16; i++) {
            check.due("cell()", deck.cell(), i);
        }
        check.dueFull("cell 16", deck::cell);
        check.dueFull("cell 16 again", deck::cell);
        check.due("cell 15", deck.occurrences(15), 0);
        check.dueNoSuch("cell 16", () -> deck.occurrences(16));
    }

    private static void polygons(Check check) {
        check.by(TERMS, "POLYGONS 0 .. 63 are of a cell");
        RuleDeck deck = Check.deck(1, 2);
        for (int i = 0; i < 64; i++) {
            check.due("polygon", deck.polygon(i % 2, 0), i);
        }
        check.dueFull("polygon 64", () -> deck.polygon(0, 0));
        check.dueFull("polygon 64", () -> deck.polygon(1, 0));
        check.due("polygon 63", deck.voltage(63, 1), true);
        check.dueNoSuch("polygon 64", () -> deck.voltage(64, 1));
        long[] corners = {0, 0, 1, 0, 1, 1, 0, 1};
        for (int i = 0; i < 8; i += 2) {
            deck.corner(63, corners[i], corners[i + 1]);
        }
        check.due("it is of cell 1", deck.occurrences(1), 1);
        check.due("and not of cell 0", deck.occurrences(0), 0);
    }

    private static void layers(Check check) {
        check.by(TERMS, "on a layer, 0 .. layers - 1");
        for (int layers : new int[] {1, 2, 65535, 65536}) {
            RuleDeck deck = Check.deck(layers, 1);
            check.due("layer 0", deck.polygon(0, 0), 0);
            check.due("the last layer", deck.polygon(0, layers - 1), 1);
            check.dueNoSuch("the layer behind it", () -> deck.polygon(0, layers));
            check.dueNoSuch("the layer before 0", () -> deck.polygon(0, -1));
            check.due("none came", deck.polygon(0, 0), 2);
        }
    }

    private static void cornersOfOne(Check check) {
        check.by(TERMS, "with up to 16 corners");
        RuleDeck deck = Check.deck(1, 1, "a=corners 0<17;");
        Check.polygon(deck, 0, 0, STAIRS_OF_16);
        check.dueFull("corner 17", () -> deck.corner(0, 0, 3));
        check.due("it has 16", Check.run(deck, 0, 0, true), "0 0 7 7 0 -1 16 @0");
        deck.polygon(0, 0);
        check.due("another one has its own", deck.corner(1, 0, 0), true);
    }

    private static void cornerRange(Check check) {
        check.by(TERMS, "corners, whole numbers from -10000 to 10000");
        RuleDeck deck = Check.deck(1, 1, "a=area 0<999999999;");
        Check.box(deck, 0, 0, -10000, -10000, 10000, 10000);
        check.due("the largest box", Check.run(deck, 0, 0, true), "-10000 -10000 10000 10000 0 -1 400000000 @0");
        for (long far : OUT_OF_RANGE) {
            check.dueOutOfRange("x " + far, () -> deck.corner(0, far, 10000));
            check.dueOutOfRange("y " + far, () -> deck.corner(0, -10000, far));
        }
    }

    private static void cornerSteps(Check check) {
        check.by(TERMS, "each of which differs from the one before in just one of x and y");
        RuleDeck deck = Check.deck(1, 1);
        deck.polygon(0, 0);
        check.due("the first one", deck.corner(0, 3, 4), true);
        check.due("in none", deck.corner(0, 3, 4), false);
        check.due("in both", deck.corner(0, 5, 5), false);
        check.due("in both by one each", deck.corner(0, 4, 3), false);
        check.due("in x", deck.corner(0, 5, 4), true);
        check.due("in both from the latest, in one from the first", deck.corner(0, 3, 9), false);
        check.due("in y", deck.corner(0, 5, 9), true);
        check.due("on along the side", deck.corner(0, 5, 8), true);
    }

    private static void voltageOfNewOnes(Check check) {
        check.by(TERMS, "and a VOLTAGE (0)");
        RuleDeck deck = Check.deck(1, 1);
        Check.box(deck, 0, 0, 0, 0, 1, 1);
        Check.box(deck, 0, 0, 2, 0, 3, 1);
        check.dueTold(deck, "space 0 0<5 volt 1", "");
        deck.voltage(1, -1);
        check.dueTold(deck, "space 0 0<5 volt 1", "1 0 2 1 0 1 1 @0");
        check.dueTold(deck, "space 0 0<5 volt 2", "");
        check.due("0 is no other", deck.voltage(0, 0), false);
    }

    private static void sides(Check check) {
        check.by(TERMS, "SIDES go from corner to corner, and from the last one to the first one");
        RuleDeck deck = Check.deck(1, 1);
        Check.polygon(deck, 0, 0, 3, 8, 0, 8, 0, 0, 9, 0, 9, 9, 3, 9);
        check.dueTold(deck, "edge 0<2", "3 8 3 9 0 -1 1 @0");
        check.dueTold(deck, "edge 0<99", "0 0 0 8 0 -1 8 @0, 0 0 9 0 0 -1 9 @0, 0 8 3 8 0 -1 3 @0, "
                + "3 8 3 9 0 -1 1 @0, 3 9 9 9 0 -1 6 @0, 9 0 9 9 0 -1 9 @0");
    }

    private static void dueRight(Check check, String what, boolean right, long... corners) {
        RuleDeck deck = Check.deck(1, 1);
        Check.polygon(deck, 0, 0, corners);
        check.due(what, deck.occurrences(0), right ? 1 : 0);
    }

    private static void rightFromFourCorners(Check check) {
        check.by(TERMS, "A polygon is RIGHT if it has four corners or more");
        dueRight(check, "none", false);
        dueRight(check, "one", false, 0, 0);
        dueRight(check, "two", false, 0, 0, 2, 0);
        dueRight(check, "three", false, 0, 0, 2, 0, 2, 2);
        dueRight(check, "four", true, 0, 0, 2, 0, 2, 2, 0, 2);
        dueRight(check, "six", true, 0, 0, 4, 0, 4, 2, 2, 2, 2, 4, 0, 4);
        dueRight(check, "sixteen", true, STAIRS_OF_16);
    }

    private static void rightIfItCloses(Check check) {
        check.by(TERMS, "the last one differs from the first one in just one of x and y");
        dueRight(check, "in none", false, 0, 0, 2, 0, 2, 2, 0, 2, 0, 0);
        dueRight(check, "in none, six corners", false, 1, 0, 2, 0, 2, 2, 0, 2, 0, 0, 1, 0);
        dueRight(check, "in both behind a side that lies", false, 0, 0, 2, 0, 2, 2, 1, 2);
        dueRight(check, "in both behind a side that stands", false, 0, 0, 0, 2, 2, 2, 2, 1);
        dueRight(check, "in both, six corners", false, 0, 0, 4, 0, 4, 4, 2, 4, 2, 2, 1, 2);
        dueRight(check, "in y", true, 0, 0, 2, 0, 2, 2, 0, 2);
        dueRight(check, "in x", true, 0, 0, 0, 2, 2, 2, 2, 0);
    }

    private static void rightIfSidesTakeTurns(Check check) {
        check.by(TERMS, "of two sides one behind the other (round and round) one lies and one stands");
        dueRight(check, "two lie at the start", false, 0, 0, 1, 0, 2, 0, 2, 2, 0, 2);
        dueRight(check, "two stand in the middle", false, 0, 0, 2, 0, 2, 1, 2, 2, 0, 2);
        dueRight(check, "the last two stand", false, 0, 0, 2, 0, 2, 2, 0, 2, 0, 1);
        dueRight(check, "the last one and the first one lie", false, 1, 0, 2, 0, 2, 2, 0, 2, 0, 0);
        dueRight(check, "two pairs lie", false, 1, 0, 2, 0, 2, 2, 1, 2, 0, 2, 0, 0);
        dueRight(check, "there and back", false, 0, 0, 2, 0, 1, 0, 1, 2, 0, 2);
        dueRight(check, "all on a line", false, 0, 0, 2, 0, 4, 0, 6, 0);
    }

    private static void rightIfNoSidesTouch(Check check) {
        check.by(TERMS, "no two sides have a point in common but these two their corner");
        dueRight(check, "sides that cross", false, 0, 0, 6, 0, 6, 6, 2, 6, 2, 3, 8, 3, 8, 8, 0, 8);
        dueRight(check, "corners that meet", false, 0, 0, 2, 0, 2, 2, 4, 2, 4, 4, 2, 4, 2, 2, 0, 2);
        dueRight(check, "a side that lies on another one", false, 0, 0, 6, 0, 6, 4, 4, 4, 4, 0, 2, 0, 2, 4, 0, 4);
        dueRight(check, "a side that comes back on the same line", false, 0, 0, 6, 0, 6, 6, 4, 6, 4, 2, 6, 2, 6, 1, 0, 1);
        dueRight(check, "a corner on a side that stands", false, 0, 0, 8, 0, 8, 8, 4, 8, 4, 4, 0, 4, 0, 6, 2, 6, 2, 9, -2, 9, -2, 5, 0, 5);
        dueRight(check, "a corner at the end of a side", false, 0, 0, 4, 0, 4, 2, 2, 2, 2, 0, 1, 0, 1, 2, 0, 2);
        dueRight(check, "the last side on the first one", false, 0, 0, 4, 0, 4, 4, 2, 4, 2, 0, 0, 0);
        dueRight(check, "sides beside each other, 1 apart", true, 0, 0, 3, 0, 3, 9, 2, 9, 2, 1, 1, 1, 1, 9, 0, 9);
        dueRight(check, "corners aslant, 1 apart", true, 0, 0, 2, 0, 2, 3, 3, 3, 3, 2, 5, 2, 5, 5, 0, 5);
    }

    /** Walks at random on a small grid, which cross and touch themselves in every way. */
    private static void rightWalks(Check check) {
        check.by(TERMS, "Others are as if they were not there");
        Random random = new Random(7);
        int right = 0;
        for (int round = 0; round < 1600; round++) {
            RuleDeck deck = Check.deck(1, 1);
            int before = 0;
            for (int polygon = 0; polygon < 32; polygon++) {
                deck.polygon(0, 0);
                boolean due = Model.isRight(walk(random, deck, polygon));
                before += due ? 1 : 0;
                check.due("occurrences with one walk more", deck.occurrences(0), before);
            }
            right += before;
        }
        check.due("many were right", right > 2000, true);
    }

    /** Up or down and to and fro in turns, back to the first y at the end. */
    private static List<long[]> walk(Random random, RuleDeck deck, int polygon) {
        List<long[]> taken = new ArrayList<>();
        int last = 3 + 2 * random.nextInt(5);
        long[] at = {random.nextInt(4), random.nextInt(4)};
        for (int i = 0; i <= last; i++) {
            if (i > 0) {
                at[i % 2] = random.nextInt(4);
            }
            if (i == last) {
                at = new long[] {taken.get(taken.size() - 1)[0], taken.get(0)[1]};
            }
            if (deck.corner(polygon, at[0], at[1])) {
                taken.add(at.clone());
            }
        }
        return taken;
    }

    private static void othersAreNotThere(Check check) {
        check.by(TERMS, "Others are as if they were not there");
        RuleDeck deck = Check.deck(1, 1);
        Check.box(deck, 0, 0, 0, 0, 2, 4);
        Check.polygon(deck, 0, 0, 5, 0, 7, 0, 7, 4);
        Check.polygon(deck, 0, 0, 1, 1, 2, 1, 3, 1, 3, 2);
        for (String rule : new String[] {"space 0 0<9", "corner 0 0<9", "enclose 0 0<9", "overlap 0 0<9", "notch 0<9"}) {
            check.dueTold(deck, rule, "");
        }
        check.dueTold(deck, "width 0<3", "0 0 2 4 0 -1 2 @0");
        check.dueTold(deck, "area 0<9", "0 0 2 4 0 -1 8 @0");
        check.dueTold(deck, "corners 0<9", "0 0 2 4 0 -1 4 @0");
        check.dueTold(deck, "edge 0<3", "0 0 2 0 0 -1 2 @0, 0 4 2 4 0 -1 2 @0");
        check.dueTold(deck, "count 0<9", "0 0 2 4 -1 -1 1 @0");
        check.dueTold(deck, "density 0<101", "0 0 2 4 -1 -1 100 @0");
        check.due("occurrences", deck.occurrences(0), 1);
        deck.corner(1, 5, 4);
        check.dueTold(deck, "space 0 0<9", "2 0 5 4 0 1 3 @0");
        deck.corner(0, 0, 2);
        check.dueTold(deck, "area 0<9", "5 0 7 4 1 -1 8 @0");
        nothingTowardsTheLimit(check);
    }

    private static void nothingTowardsTheLimit(Check check) {
        RuleDeck deck = Check.deck(1, 2);
        for (int i = 0; i < 4; i++) {
            Check.box(deck, 0, 0, 0, 0, 1, 1);
        }
        Check.polygon(deck, 0, 0, 0, 0, 1, 0, 1, 1);
        for (int i = 0; i < 25; i++) {
            deck.place(1, 0, 0, 0, 0);
        }
        Check.polygon(deck, 1, 0, 0, 0, 1, 0, 1, 1);
        check.due("25 times 4", deck.occurrences(1), 100);
        deck.corner(5, 0, 1);
        check.dueTooMany("one more", () -> deck.occurrences(1));
    }

    private static void facesLookAway(Check check) {
        check.by(TERMS, "A side FACES right, up, left or down: away from the polygon");
        for (int start = 0; start < 8; start++) {
            for (int way = 1; way <= 7; way += 6) {
                RuleDeck deck = Check.deck(2, 1);
                deck.polygon(0, 0);
                for (int i = 0; i < 8; i++) {
                    int corner = (start + way * i) % 8;
                    deck.corner(0, NOTCHED[2 * corner], NOTCHED[2 * corner + 1]);
                }
                Check.box(deck, 0, 1, 4, 4, 5, 12);
                check.dueTold(deck, "width 0<3", "0 2 2 6 0 -1 2 @0, 2 0 7 2 0 -1 2 @0, 7 2 9 6 0 -1 2 @0");
                check.dueTold(deck, "notch 0<6", "2 2 7 6 0 -1 5 @0");
                check.dueTold(deck, "space 0 1<3", "2 4 4 6 0 1 2 @0, 4 2 5 4 0 1 2 @0, 5 4 7 6 1 0 2 @0");
                check.dueTold(deck, "area 0<99", "0 0 9 6 0 -1 34 @0");
            }
        }
    }

    private static void places(Check check) {
        check.by(TERMS, "PLACES 0 .. 31: a cell has another one in it");
        RuleDeck deck = Check.deck(1, 3);
        Check.box(deck, 1, 0, 0, 0, 1, 1);
        for (int i = 0; i < 32; i++) {
            check.due("place", deck.place(i % 2 == 0 ? 0 : 2, 1, 0, 0, 0), i);
        }
        check.dueFull("place 32", () -> deck.place(0, 1, 0, 0, 0));
        check.dueFull("place 32 in another cell", () -> deck.place(2, 1, 0, 0, 0));
        check.due("half of them", deck.occurrences(0), 16);
        check.due("the other half", deck.occurrences(2), 16);
    }

    private static void placeRange(Check check) {
        check.by(TERMS, "at x and y (whole numbers from -10000 to 10000)");
        RuleDeck deck = Check.deck(1, 2, "a=area 0<9;");
        Check.box(deck, 1, 0, 0, 0, 1, 1);
        check.due("the farthest one", deck.place(0, 1, 10000, 10000, 0), 0);
        check.due("the farthest one", deck.place(0, 1, -10000, -10000, 0), 1);
        for (long far : OUT_OF_RANGE) {
            check.dueOutOfRange("x " + far, () -> deck.place(0, 1, far, 0, 0));
            check.dueOutOfRange("y " + far, () -> deck.place(0, 1, 0, far, 0));
        }
        check.due("where they are", Check.run(deck, 0, 0, true),
                "-10000 -10000 -9999 -9999 0 -1 1 @1, 10000 10000 10001 10001 0 -1 1 @1");
    }

    /** The box of TURNED in cell 1, turned in cell 0. */
    private static RuleDeck turned(int turn, String text) {
        RuleDeck deck = Check.deck(1, 2, text);
        Check.box(deck, 1, 0, 1, 2, 4, 7);
        deck.place(0, 1, 100, 200, turn);
        return deck;
    }

    private static void turns(Check check) {
        String[] sentences = {"0 to 3 quarters to the left", "4 to 7 the same less 4 after mirroring (y becomes -y)",
            "turned by a quarter x, y becomes -y, x; then it is moved by x and y"};
        for (int turn = 0; turn < 8; turn++) {
            check.by(TERMS, turn == 1 ? sentences[2] : sentences[turn / 4]);
            RuleDeck deck = turned(turn, "a=area 0<99;");
            check.due("turn " + turn, Check.run(deck, 0, 0, true), row(TURNED[turn]) + " 0 -1 15 @1");
            check.due("in its own cell", Check.run(deck, 0, 0, false), "1 2 4 7 0 -1 15 @1");
        }
        check.by(TERMS, "with a TURN: 0 to 3 quarters to the left, 4 to 7");
        RuleDeck deck = Check.deck(1, 2);
        for (int turn : new int[] {-1, 8, -4, 12, Integer.MIN_VALUE, Integer.MAX_VALUE}) {
            check.dueOutOfRange("turn " + turn, () -> deck.place(0, 1, 0, 0, turn));
        }
        check.due("none came", deck.place(0, 1, 0, 0, 7), 0);
    }

    /** Each turn in each other one: where a box lies tells all eight apart. */
    private static void turnsInTurns(Check check) {
        check.by(TERMS, "those of the cell there, turned and moved");
        for (int inner = 0; inner < 8; inner++) {
            for (int outer = 0; outer < 8; outer++) {
                RuleDeck deck = Check.deck(1, 3, "a=area 0<99;");
                Check.box(deck, 2, 0, 1, 2, 4, 7);
                deck.place(1, 2, 10, 20, inner);
                deck.place(0, 1, 100, 200, outer);
                long[] low = moved(moved(new long[] {1, 2}, inner, 10, 20), outer, 100, 200);
                long[] high = moved(moved(new long[] {4, 7}, inner, 10, 20), outer, 100, 200);
                String due = Math.min(low[0], high[0]) + " " + Math.min(low[1], high[1]) + " "
                        + Math.max(low[0], high[0]) + " " + Math.max(low[1], high[1]) + " 0 -1 15 @2";
                check.due("turn " + inner + " in turn " + outer, Check.run(deck, 0, 0, true), due);
            }
        }
    }

    private static long[] moved(long[] point, int turn, long x, long y) {
        long[] at = {point[0], turn >= 4 ? -point[1] : point[1]};
        for (int i = 0; i < turn % 4; i++) {
            at = new long[] {-at[1], at[0]};
        }
        return new long[] {at[0] + x, at[1] + y};
    }

    private static String row(long... numbers) {
        StringBuilder text = new StringBuilder();
        for (long number : numbers) {
            text.append(text.length() == 0 ? "" : " ").append(number);
        }
        return text.toString();
    }

    /** With neighbours on all sides: what faces right, up, left and down is as the box lies. */
    private static void turnedSides(Check check) {
        check.by(TERMS, "those of the cell there, turned and moved");
        for (int turn = 0; turn < 8; turn++) {
            RuleDeck deck = turned(turn, "a=space 0 0<4;");
            long x0 = TURNED[turn][0];
            long y0 = TURNED[turn][1];
            long x1 = TURNED[turn][2];
            long y1 = TURNED[turn][3];
            Check.box(deck, 0, 0, x1 + 2, y0, x1 + 9, y1);
            Check.box(deck, 0, 0, x0, y1 + 3, x1, y1 + 9);
            Check.box(deck, 0, 0, x0 - 9, y0, x0 - 1, y1);
            Check.box(deck, 0, 0, x0, y0 - 9, x1, y0 - 2);
            check.due("turn " + turn, Check.run(deck, 0, 0, true), row(x0 - 1, y0, x0, y1, 3, 0, 1) + " @0, "
                    + row(x0, y0 - 2, x1, y0, 4, 0, 2) + " @0, " + row(x0, y1, x1, y1 + 3, 0, 2, 3) + " @0, "
                    + row(x1, y0, x1 + 2, y1, 0, 1, 2) + " @0");
        }
    }

    /** With neighbours aslant: each outer corner points as the box lies. */
    private static void turnedCorners(Check check) {
        check.by(TERMS, "those of the cell there, turned and moved");
        for (int turn = 0; turn < 8; turn++) {
            RuleDeck deck = turned(turn, "a=corner 0 0<4;");
            long x0 = TURNED[turn][0];
            long y0 = TURNED[turn][1];
            long x1 = TURNED[turn][2];
            long y1 = TURNED[turn][3];
            Check.box(deck, 0, 0, x1 + 1, y1 + 1, x1 + 9, y1 + 9);
            Check.box(deck, 0, 0, x1 + 1, y0 - 9, x1 + 9, y0 - 2);
            Check.box(deck, 0, 0, x0 - 9, y1 + 1, x0 - 2, y1 + 9);
            Check.box(deck, 0, 0, x0 - 9, y0 - 9, x0 - 2, y0 - 2);
            check.due("turn " + turn, Check.run(deck, 0, 0, true), row(x0 - 2, y0 - 2, x0, y0, 4, 0, 8) + " @0, "
                    + row(x0 - 2, y1, x0, y1 + 1, 3, 0, 5) + " @0, " + row(x1, y0 - 2, x1 + 1, y0, 0, 2, 5) + " @0, "
                    + row(x1, y1, x1 + 1, y1 + 1, 0, 1, 2) + " @0");
        }
    }

    private static void cellsInThemselves(Check check) {
        check.by(TERMS, "No cell is in itself, directly or over others");
        RuleDeck deck = Check.deck(1, 16);
        check.due("directly", deck.place(5, 5, 0, 0, 0), -1);
        for (int i = 0; i < 15; i++) {
            // Built from below for one half, from above for the other one.
            int cell = i < 8 ? 14 - i : i - 8;
            check.due("a chain", deck.place(cell, cell + 1, 0, 0, 0), i);
        }
        check.due("over one", deck.place(9, 8, 0, 0, 0), -1);
        check.due("over some", deck.place(9, 3, 0, 0, 0), -1);
        check.due("over all others", deck.place(15, 0, 0, 0, 0), -1);
        check.due("a cell twice in another one is no such case", deck.place(0, 15, 0, 0, 0), 15);
        check.due("nor is the same place again", deck.place(0, 15, 0, 0, 0), 16);
    }

    private static void occurrences(Check check) {
        check.by(TERMS, "A cell's OCCURRENCES are its own right polygons, and for each of its places those of the cell there");
        RuleDeck deck = Check.deck(1, 16, "a=count 0<200;");
        Check.box(deck, 15, 0, 0, 0, 1, 1);
        deck.polygon(15, 0);
        for (int i = 0; i < 30; i++) {
            deck.place(i / 2, i / 2 + 1, 3, 0, i % 8);
        }
        for (int cell = 15; cell >= 9; cell--) {
            check.due("doubled", deck.occurrences(cell), 1 << (15 - cell));
        }
        Check.box(deck, 12, 0, 5, 5, 6, 6);
        check.due("its own, too", deck.occurrences(12), 9);
        check.due("wherever it is", deck.occurrences(10), 36);
        check.due("not below it", deck.occurrences(13), 4);
        check.due("a cell without places or polygons", Check.deck(1, 1).occurrences(0), 0);
        check.due("cells of nothing may be in others any number of times", emptyTower().occurrences(0), 0);
        check.due("and be run", Check.run(emptyTower(), 0, 0, false), "0 0 0 0 -1 -1 0 @0");
    }

    /** All 16 cells in each other, as far out as can be. */
    private static void deepest(Check check) {
        check.by(TERMS, "for each of its places those of the cell there, turned and moved");
        RuleDeck deck = Check.deck(1, 16, "a=area 0<9;b=count 0<2;c=space 0 0<9;");
        Check.box(deck, 15, 0, 9999, -10000, 10000, -9999);
        for (int i = 1; i < 16; i++) {
            deck.place(i - 1, i, 10000, -10000, 0);
        }
        check.due("one", deck.occurrences(0), 1);
        check.due("flat", Check.run(deck, 0, 0, true), "159999 -160000 160000 -159999 0 -1 1 @15");
        check.due("by cells", Check.run(deck, 0, 0, false), "9999 -10000 10000 -9999 0 -1 1 @15");
        check.due("of the whole", Check.run(deck, 1, 0, false), "159999 -160000 160000 -159999 -1 -1 1 @0");
        deck.place(0, 1, 9998, -10000, 0);
        deck.place(0, 1, 9996, -10000, 0);
        check.due("pairs", Check.run(deck, 2, 0, true), "159996 -160000 159997 -159999 0 0 1 @0, "
                + "159996 -160000 159999 -159999 0 0 3 @0, 159998 -160000 159999 -159999 0 0 1 @0");
    }

    private static RuleDeck emptyTower() {
        RuleDeck deck = Check.deck(1, 11, "a=count 0<1;");
        for (int i = 0; i < 30; i++) {
            deck.place(i / 3, i / 3 + 1, 0, 0, 0);
        }
        return deck;
    }

    private static void meetings(Check check) {
        check.by(TERMS, "Two occurrences are MET in that cell of all in which both are that is the lowest");
        RuleDeck deck = Check.deck(1, 4, "a=space 0 0<3;b=area 0<9;");
        Check.box(deck, 0, 0, 0, 0, 2, 2);
        deck.place(1, 0, 0, 0, 0);
        deck.place(1, 0, 4, 0, 0);
        Check.box(deck, 1, 0, 8, 0, 9, 2);
        deck.place(2, 1, 100, 0, 0);
        deck.place(2, 1, 100, 4, 0);
        deck.place(3, 2, 0, 0, 1);
        check.due("one alone has no pair", Check.run(deck, 0, 0, true), "");
        check.due("two places of one cell", Check.run(deck, 0, 1, true), "2 0 4 2 0 0 2 @1, 6 0 8 2 0 1 2 @1");
        check.due("three levels", Check.run(deck, 0, 3, true), "-6 102 -4 104 0 0 2 @1, -6 106 -4 108 0 1 2 @1, "
                + "-4 100 -2 102 0 0 2 @2, -4 104 -2 106 0 0 2 @2, -4 108 -2 109 1 1 2 @2, "
                + "-2 102 0 104 0 0 2 @1, -2 106 0 108 0 1 2 @1");
        check.by(TERMS, "(of one alone: its own cell)");
        deck.run(1, 3, true);
        check.due("four and two", deck.count(2), 6);
        for (int k = 0; k < 6; k++) {
            check.due("its own cell", deck.cellOf(k), deck.violation(k, 4));
        }
    }
}
