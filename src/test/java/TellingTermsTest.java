/** Terms, 3, from FLAT on: a test for each sentence on how violations are told, waived and too many, and on what is thrown. */
public final class TellingTermsTest {
    private static final String TERMS = "Terms 3";
    private static final int[] NO_NUMBERS = {-1, Integer.MIN_VALUE, Integer.MAX_VALUE};

    public static void main(String[] args) {
        Check check = new Check();
        flatHasAll(check);
        flatByBox(check);
        flatByFirstAndSecond(check);
        flatByMeasureAndCell(check);
        flatByBoxThere(check);
        byCellsOnce(check);
        byCellsAlike(check);
        byCellsInOrder(check);
        waivedByFiveThings(check);
        waivedInEither(check);
        firstNamedIsThrown(check);
        noSuchNumbers(check);
        asManyAsThereCanBe(check);
        outOfRange(check);
        tooManyOccurrences(check);
        tooManyViolationsFlat(check);
        tooManyViolationsByCells(check);
        refusedCallsChangeNothing(check);
        refusedRunsChangeNothing(check);
        check.end();
    }

    private static void dueRun(Check check, RuleDeck deck, boolean flat, String want) {
        check.due("rule 0 of cell 0 " + (flat ? "flat" : "by cells"), Check.run(deck, 0, 0, flat), want);
    }

    // ---- flat

    private static void flatHasAll(Check check) {
        check.by(TERMS, "FLAT a cell has all violations of its occurrences, each pair, side and corner by itself, "
                + "with boxes as they lie in that cell");
        RuleDeck deck = Check.deck(1, 2, "a=space 0 0<3;b=edge 0<2;c=corner 0 0<3;");
        Check.box(deck, 1, 0, 0, 0, 1, 2);
        Check.box(deck, 1, 0, 2, 3, 4, 5);
        deck.place(0, 1, 10, 0, 0);
        deck.place(0, 1, 10, 0, 0);
        // Each of two places has its own pair, and each of one place one with the other of the other place.
        check.due("pairs of corners", Check.run(deck, 2, 0, true), "11 2 12 3 0 1 2 @0, 11 2 12 3 0 1 2 @0, "
                + "11 2 12 3 0 1 2 @1, 11 2 12 3 0 1 2 @1");
        check.due("sides", Check.run(deck, 1, 0, true), "10 0 11 0 0 -1 1 @1, 10 0 11 0 0 -1 1 @1, "
                + "10 2 11 2 0 -1 1 @1, 10 2 11 2 0 -1 1 @1");
        deck.place(0, 1, 13, 0, 0);
        check.due("pairs of sides", Check.run(deck, 0, 0, true), "11 0 13 2 0 0 2 @0, 11 0 13 2 0 0 2 @0, "
                + "13 2 14 3 0 1 1 @0, 13 2 14 3 0 1 1 @0, 14 3 15 5 1 1 1 @0, 14 3 15 5 1 1 1 @0");
    }

    private static void flatByBox(Check check) {
        check.by(TERMS, "by box (least x, least y, greatest x, greatest y)");
        RuleDeck deck = Check.deck(1, 1, "a=area 0<999;");
        Check.box(deck, 0, 0, 10, -9, 11, -8);
        Check.box(deck, 0, 0, 9, 0, 10, 1);
        Check.box(deck, 0, 0, 0, 10, 1, 11);
        Check.box(deck, 0, 0, 0, 9, 2, 10);
        Check.box(deck, 0, 0, 0, -1, 11, 3);
        Check.box(deck, 0, 0, 0, -1, 9, 12);
        Check.box(deck, 0, 0, 0, -1, 9, 2);
        Check.box(deck, 0, 0, -1, 20, 9, 21);
        Check.box(deck, 0, 0, -10, 30, 9, 31);
        dueRun(check, deck, true, "-10 30 9 31 8 -1 19 @0, -1 20 9 21 7 -1 10 @0, 0 -1 9 2 6 -1 27 @0, 0 -1 9 12 5 -1 117 @0, "
                + "0 -1 11 3 4 -1 44 @0, 0 9 2 10 3 -1 2 @0, 0 10 1 11 2 -1 1 @0, 9 0 10 1 1 -1 1 @0, 10 -9 11 -8 0 -1 1 @0");
    }

    private static void flatByFirstAndSecond(Check check) {
        check.by(TERMS, "then by first");
        // What is found first is of cell 0, what is told first is of the lesser number, in a cell behind it.
        RuleDeck deck = Check.deck(1, 2, "a=area 0<9;");
        for (int i = 0; i < 11; i++) {
            Check.box(deck, i % 2 == 0 ? 1 : 0, 0, 0, 0, 1, 1);
        }
        deck.place(0, 1, 0, 0, 0);
        check.due("all of one box", deck.run(0, 0, true), 11);
        for (int k = 0; k < 11; k++) {
            check.due("violation " + k, Check.told(deck, k), "0 0 1 1 " + k + " -1 1 @" + (k % 2 == 0 ? 1 : 0));
        }
        check.by(TERMS, "then by second");
        RuleDeck pairs = Check.deck(1, 3, "a=space 0 0<3;");
        Check.box(pairs, 0, 0, 0, 0, 1, 1);
        for (int i = 0; i < 4; i++) {
            Check.box(pairs, 1 + i % 2, 0, 2, 0, 3, 1);
        }
        pairs.place(0, 2, 0, 0, 0);
        pairs.place(0, 1, 0, 0, 0);
        dueRun(check, pairs, true, "1 0 2 1 0 1 1 @0, 1 0 2 1 0 2 1 @0, 1 0 2 1 0 3 1 @0, 1 0 2 1 0 4 1 @0");
    }

    private static void flatByMeasureAndCell(Check check) {
        check.by(TERMS, "then by measure");
        RuleDeck lying = Check.deck(1, 1, "a=width 0<99;");
        Check.box(lying, 0, 0, 0, 0, 8, 3);
        dueRun(check, lying, true, "0 0 8 3 0 -1 3 @0, 0 0 8 3 0 -1 8 @0");
        RuleDeck standing = Check.deck(1, 1, "a=width 0<99;");
        Check.box(standing, 0, 0, 0, 0, 3, 8);
        dueRun(check, standing, true, "0 0 3 8 0 -1 3 @0, 0 0 3 8 0 -1 8 @0");
        RuleDeck pairs = Check.deck(1, 1, "a=overlap 0 0<4;");
        Check.box(pairs, 0, 0, 0, 0, 6, 5);
        Check.box(pairs, 0, 0, 4, 2, 10, 9);
        Check.box(pairs, 0, 0, 4, 2, 10, 9);
        String common = "4 2 6 5 0 ";
        dueRun(check, pairs, true, common + "1 2 @0, " + common + "1 3 @0, " + common + "2 2 @0, " + common + "2 3 @0");
        check.by(TERMS, "then by the cell in which they are met");
        RuleDeck twice = Check.deck(1, 2, "a=overlap 0 0<4;");
        Check.box(twice, 1, 0, 0, 0, 6, 5);
        Check.box(twice, 1, 0, 4, 2, 10, 9);
        twice.place(0, 1, 0, 0, 0);
        twice.place(0, 1, 0, 0, 0);
        String two = common + "1 2 @";
        String three = common + "1 3 @";
        dueRun(check, twice, true, two + "0, " + two + "0, " + two + "1, " + two + "1, "
                + three + "0, " + three + "0, " + three + "1, " + three + "1");
        RuleDeck cells = Check.deck(1, 4, "a=space 0 0<3;");
        Check.box(cells, 3, 0, 0, 0, 2, 2);
        for (int cell = 1; cell <= 2; cell++) {
            // The boxes there would tell the greater cell first.
            cells.place(cell, 3, -50 * cell, 0, 0);
            cells.place(cell, 3, 4 - 50 * cell, 0, 0);
        }
        cells.place(0, 2, 100, 0, 0);
        cells.place(0, 1, 50, 0, 0);
        String gap = "2 0 4 2 0 0 2 @";
        dueRun(check, cells, true, gap + "0, " + gap + "0, " + gap + "1, " + gap + "2");
    }

    /** Two edges of one polygon that lie at one box of the asked cell: which comes first is seen when it is waived. */
    private static void flatByBoxThere(Check check) {
        check.by(TERMS, "then by the box there");
        for (int k = 0; k < 2; k++) {
            for (int order = 0; order < 2; order++) {
                RuleDeck deck = Check.deck(1, 2, "a=edge 0<2;");
                Check.box(deck, 1, 0, 0, 0, 2, 1);
                deck.place(0, 1, order == 0 ? 0 : 2, 0, 0);
                deck.place(0, 1, order == 0 ? 2 : 0, 0, 0);
                dueRun(check, deck, true, "0 0 0 1 0 -1 1 @1, 2 0 2 1 0 -1 1 @1, 2 0 2 1 0 -1 1 @1, 4 0 4 1 0 -1 1 @1");
                deck.waive(1 + k);
                dueRun(check, deck, false, k == 0 ? "2 0 2 1 0 -1 1 @1" : "0 0 0 1 0 -1 1 @1");
            }
        }
    }

    // ---- by cells

    private static void byCellsOnce(Check check) {
        check.by(TERMS, "BY CELLS each cell in it (and itself) is gone through once: violations that are met in it, "
                + "with boxes as they lie there");
        RuleDeck deck = Check.deck(1, 4, "a=area 0<99;b=space 0 0<3;");
        Check.box(deck, 0, 0, 5, 5, 6, 6);
        Check.box(deck, 1, 0, 0, 0, 2, 2);
        Check.box(deck, 2, 0, 0, 0, 1, 3);
        Check.box(deck, 3, 0, 0, 0, 9, 9);
        deck.place(0, 1, 40, 40, 1);
        deck.place(0, 1, 80, 80, 2);
        deck.place(1, 2, 4, 0, 0);
        dueRun(check, deck, false, "5 5 6 6 0 -1 1 @0, 0 0 2 2 1 -1 4 @1, 0 0 1 3 2 -1 3 @2");
        check.due("of a cell below", Check.run(deck, 0, 1, false), "0 0 2 2 1 -1 4 @1, 0 0 1 3 2 -1 3 @2");
        check.due("of the lowest one", Check.run(deck, 0, 2, false), "0 0 1 3 2 -1 3 @2");
        check.due("pairs, where they are met", Check.run(deck, 1, 0, false), "2 0 4 2 1 2 2 @1");
        deck.place(3, 0, 0, 0, 0);
        dueRun(check, deck, false, "5 5 6 6 0 -1 1 @0, 0 0 2 2 1 -1 4 @1, 0 0 1 3 2 -1 3 @2");
    }

    private static void byCellsAlike(Check check) {
        check.by(TERMS, "those that are alike in all are told once");
        RuleDeck deck = Check.deck(1, 2, "a=space 0 0<3;");
        Check.box(deck, 1, 0, 0, 0, 2, 2);
        Check.box(deck, 0, 0, 4, 0, 6, 2);
        for (int i = 0; i < 3; i++) {
            deck.place(0, 1, 0, 0, 0);
        }
        String gap = "2 0 4 2 0 1 2 @0";
        dueRun(check, deck, false, gap);
        dueRun(check, deck, true, gap + ", " + gap + ", " + gap);
        Check.box(deck, 0, 0, 4, 0, 6, 2);
        dueRun(check, deck, false, gap + ", 2 0 4 2 0 2 2 @0");
        // Alike but for the measure, and but for the cell.
        RuleDeck square = Check.deck(1, 2, "a=width 0<9;");
        Check.box(square, 0, 0, 0, 0, 3, 4);
        dueRun(check, square, false, "0 0 3 4 0 -1 3 @0, 0 0 3 4 0 -1 4 @0");
        RuleDeck equal = Check.deck(1, 1, "a=width 0<9;");
        Check.box(equal, 0, 0, 0, 0, 3, 3);
        dueRun(check, equal, false, "0 0 3 3 0 -1 3 @0");
        dueRun(check, equal, true, "0 0 3 3 0 -1 3 @0, 0 0 3 3 0 -1 3 @0");
        RuleDeck cells = Check.deck(1, 3, "a=space 0 0<3;");
        Check.box(cells, 2, 0, 0, 0, 2, 2);
        for (int cell = 0; cell < 2; cell++) {
            cells.place(cell, 2, 0, 0, 0);
            cells.place(cell, 2, 4, 0, 0);
        }
        cells.place(0, 1, 50, 0, 0);
        dueRun(check, cells, false, "2 0 4 2 0 0 2 @0, 2 0 4 2 0 0 2 @1");
    }

    private static void byCellsInOrder(Check check) {
        check.by(TERMS, "by cells' numbers, then as above");
        RuleDeck deck = Check.deck(1, 12, "a=area 0<99;");
        Check.box(deck, 11, 0, -9, -9, -8, -8);
        Check.box(deck, 0, 0, 5, 5, 6, 6);
        Check.box(deck, 0, 0, 5, 5, 6, 6);
        Check.box(deck, 0, 0, 5, 4, 6, 6);
        Check.box(deck, 2, 0, -5, 0, -4, 1);
        Check.box(deck, 2, 0, -6, 0, -4, 1);
        deck.place(0, 11, 0, 0, 0);
        deck.place(11, 2, 0, 0, 0);
        dueRun(check, deck, false, "5 4 6 6 3 -1 2 @0, 5 5 6 6 1 -1 1 @0, 5 5 6 6 2 -1 1 @0, "
                + "-6 0 -4 1 5 -1 2 @2, -5 0 -4 1 4 -1 1 @2, -9 -9 -8 -8 0 -1 1 @11");
        dueRun(check, deck, true, "-9 -9 -8 -8 0 -1 1 @11, -6 0 -4 1 5 -1 2 @2, -5 0 -4 1 4 -1 1 @2, "
                + "5 4 6 6 3 -1 2 @0, 5 5 6 6 1 -1 1 @0, 5 5 6 6 2 -1 1 @0");
        check.due("from the cell between", Check.run(deck, 0, 11, false),
                "-6 0 -4 1 5 -1 2 @2, -5 0 -4 1 4 -1 1 @2, -9 -9 -8 -8 0 -1 1 @11");
    }

    // ---- waived

    private static void waivedByFiveThings(Check check) {
        check.by(TERMS, "WAIVED ones (rule, cell in which it is met, box there, first, second)");
        RuleDeck rules = Check.deck(1, 1, "a=area 0<9;b=area 0<9;");
        Check.box(rules, 0, 0, 0, 0, 2, 2);
        rules.run(0, 0, true);
        rules.waive(0);
        check.due("another rule", rules.run(1, 0, true), 1);
        check.due("the rule", rules.run(0, 0, true), 0);
        RuleDeck cells = Check.deck(1, 3, "a=space 0 0<3;");
        Check.box(cells, 2, 0, 0, 0, 2, 2);
        for (int cell = 0; cell < 2; cell++) {
            cells.place(cell, 2, 0, 0, 0);
            cells.place(cell, 2, 4, 0, 0);
        }
        cells.run(0, 0, true);
        cells.waive(0);
        dueRun(check, cells, true, "");
        check.due("another cell", Check.run(cells, 0, 1, true), "2 0 4 2 0 0 2 @1");
        waivedByBox(check);
        waivedByPolygons(check);
        waivedWhateverTheMeasure(check);
    }

    private static void waivedByBox(Check check) {
        int[][] moves = {{0, 0, 0}, {1, 0, 1}, {0, 1, 1}};
        for (int[] move : moves) {
            RuleDeck deck = Check.deck(1, 2, "a=area 0<9;b=count 0<9;");
            Check.box(deck, 1, 0, 0, 0, 2, 2);
            deck.place(0, 1, 0, 0, 0);
            deck.run(1, 0, true);
            deck.waive(0);
            check.due("the box", deck.run(1, 0, true), 0);
            deck.place(0, 1, move[0], move[1], 0);
            check.due("another box", deck.run(1, 0, true), move[2]);
            check.due("the box in the lowest cell is the same at each place", deck.run(0, 0, true), 2);
            deck.waive(1);
            check.due("the box in the lowest cell is the same at each place", deck.run(0, 0, true), 0);
        }
        for (int least = 0; least < 2; least++) {
            RuleDeck deck = Check.deck(1, 1, "a=count 0<9;");
            Check.box(deck, 0, 0, 0, 0, 2, 2);
            deck.run(0, 0, true);
            deck.waive(0);
            Check.box(deck, 0, 0, least == 0 ? -1 : 0, 0, 2, 2);
            check.due("another least x", deck.run(0, 0, true), least == 0 ? 1 : 0);
            Check.box(deck, 0, 0, 0, least == 1 ? -1 : 0, 2, 2);
            check.due("another least y", deck.run(0, 0, true), 1);
        }
    }

    /** The same gap between other polygons is another violation. */
    private static void waivedByPolygons(Check check) {
        RuleDeck deck = Check.deck(1, 1, "a=space 0 0<4;");
        for (int i = 0; i < 2; i++) {
            Check.box(deck, 0, 0, 0, 0, 2, 2);
            Check.box(deck, 0, 0, 5, 0, 7, 2);
        }
        String gap = "2 0 5 2 ";
        dueRun(check, deck, true, gap + "0 1 3 @0, " + gap + "0 3 3 @0, " + gap + "2 1 3 @0, " + gap + "2 3 3 @0");
        check.due("waive", deck.waive(1), true);
        dueRun(check, deck, true, gap + "0 1 3 @0, " + gap + "2 1 3 @0, " + gap + "2 3 3 @0");
        check.due("waive", deck.waive(1), true);
        dueRun(check, deck, false, gap + "0 1 3 @0, " + gap + "2 3 3 @0");
        check.due("two are waived", deck.count(3), 2);
    }

    /** A polygon of the same box with another area is waived still; so are both widths of one box. */
    private static void waivedWhateverTheMeasure(Check check) {
        RuleDeck deck = Check.deck(1, 1, "a=area 0<99;");
        Check.polygon(deck, 0, 0, 0, 0, 4, 0, 4, 4, 0, 4);
        dueRun(check, deck, true, "0 0 4 4 0 -1 16 @0");
        deck.waive(0);
        long[] more = {0, 2, 1, 2, 1, 1, 0, 1};
        for (int i = 0; i < 8; i += 2) {
            deck.corner(0, more[i], more[i + 1]);
        }
        check.due("it is right again", deck.occurrences(0), 1);
        dueRun(check, deck, true, "");
        dueRun(check, deck, false, "");
        RuleDeck widths = Check.deck(1, 1, "a=width 0<9;");
        Check.box(widths, 0, 0, 0, 0, 3, 8);
        check.due("both widths", widths.run(0, 0, true), 2);
        check.due("waive one", widths.waive(0), true);
        check.due("the other one is waived by that", widths.waive(1), false);
        dueRun(check, widths, true, "");
    }

    private static void waivedInEither(Check check) {
        check.by(TERMS, "are not told by either");
        for (int waiving = 0; waiving < 2; waiving++) {
            RuleDeck deck = Check.deck(1, 2, "a=area 0<9;");
            Check.box(deck, 1, 0, 0, 0, 2, 2);
            Check.box(deck, 0, 0, 30, 9, 31, 10);
            deck.place(0, 1, 0, 0, 0);
            deck.place(0, 1, 20, 0, 1);
            boolean flat = waiving == 0;
            check.due("before", deck.run(0, 0, flat), flat ? 3 : 2);
            check.due("waive one that is of cell 1", deck.waive(1), true);
            dueRun(check, deck, true, "30 9 31 10 1 -1 1 @0");
            dueRun(check, deck, false, "30 9 31 10 1 -1 1 @0");
            check.due("in its own cell", deck.run(0, 1, true), 0);
            check.due("in its own cell", deck.run(0, 1, false), 0);
        }
    }

    // ---- exceptions

    private static RuleDeck full() {
        RuleDeck deck = Check.deck(1, 16, "a=area 0<9;");
        for (int i = 0; i < 64; i++) {
            deck.polygon(0, 0);
        }
        for (int i = 0; i < 32; i++) {
            deck.place(0, 1, 0, 0, 0);
        }
        for (int i = 0; i < 16; i++) {
            deck.corner(0, i % 2, 0);
        }
        return deck;
    }

    private static void firstNamedIsThrown(Check check) {
        check.by(TERMS, "Methods throw what their comments name, the one named first when several would do");
        RuleDeck deck = full();
        check.dueNoSuch("polygon: no cell, and as many as can be", () -> deck.polygon(16, 0));
        check.dueNoSuch("polygon: no layer, and as many as can be", () -> deck.polygon(0, 1));
        check.dueNoSuch("corner: no polygon, and too far", () -> deck.corner(64, 10001, 0));
        check.dueFull("corner: as many as can be, and too far", () -> deck.corner(0, 10001, 0));
        check.dueFull("corner: as many as can be, and no other than before", () -> deck.corner(0, 1, 0));
        check.dueOutOfRange("corner: too far, and other in both", () -> deck.corner(1, 0, 10001));
        check.dueNoSuch("voltage: no polygon, and too high", () -> deck.voltage(64, 1000001));
        check.dueNoSuch("place: no cell, as many as can be, and too far", () -> deck.place(16, 0, 10001, 0, 8));
        check.dueNoSuch("place: no cell in it, as many as can be, and too far", () -> deck.place(0, 16, 10001, 0, 8));
        check.dueFull("place: as many as can be, and too far", () -> deck.place(0, 1, 10001, 0, 0));
        check.dueFull("place: as many as can be, and no such turn", () -> deck.place(0, 1, 0, 0, 8));
        RuleDeck towers = tooMany();
        check.dueNoSuch("run: no rule, and too many", () -> towers.run(1, 0, true));
        check.dueNoSuch("same: no rule, and too many", () -> towers.same(1, 0));
        RuleDeck asked = Check.deck(1, 1, "a=area 0<9;");
        check.dueFull("changed: nothing was run, and no such box", () -> asked.changed(1, 0, 0, 0));
        asked.run(0, 0, false);
        check.dueFull("changed: not flat, and no such box", () -> asked.changed(0, 1, 0, 0));
        RuleDeck waived = fortyWaived();
        check.dueNoSuch("waive: no violation, and as many as can be", () -> waived.waive(41));
        check.dueFull("waive: as many as can be", () -> waived.waive(40));
    }

    /** 41 violations are told, 40 of them are waived behind it. */
    private static RuleDeck fortyWaived() {
        RuleDeck deck = Check.deck(1, 1, "a=area 0<9;");
        for (int i = 0; i < 41; i++) {
            Check.box(deck, 0, 0, i, 0, i + 1, 1);
        }
        deck.run(0, 0, true);
        for (int k = 0; k < 40; k++) {
            deck.waive(k);
        }
        return deck;
    }

    /** Cell 0 has 128 occurrences. */
    private static RuleDeck tooMany() {
        RuleDeck deck = Check.deck(1, 8, "a=area 0<9;");
        Check.box(deck, 7, 0, 0, 0, 1, 1);
        for (int i = 0; i < 14; i++) {
            deck.place(i / 2, i / 2 + 1, 3, 0, 0);
        }
        return deck;
    }

    private static void noSuchNumbers(Check check) {
        check.by(TERMS, "IndexOutOfBoundsException: there is no such cell, polygon, layer, rule, violation or what");
        RuleDeck deck = Check.deck(1, 2, "a=area 0<9;b=area 0<9;");
        Check.box(deck, 0, 0, 0, 0, 1, 1);
        Check.box(deck, 0, 0, 0, 0, 1, 1);
        check.due("two cells, two polygons, two rules, two violations", deck.run(1, 0, true), 2);
        dueNoSuch(check, deck, 2);
        for (int wrong : NO_NUMBERS) {
            dueNoSuch(check, deck, wrong);
        }
        for (int wrong : new int[] {1, -1, Integer.MIN_VALUE, Integer.MAX_VALUE}) {
            check.dueNoSuch("layer", () -> deck.polygon(0, wrong));
        }
        for (int wrong : new int[] {7, -1, Integer.MIN_VALUE, Integer.MAX_VALUE}) {
            check.dueNoSuch("what of a violation", () -> deck.violation(0, wrong));
        }
        for (int wrong : new int[] {5, -1, Integer.MIN_VALUE, Integer.MAX_VALUE}) {
            check.dueNoSuch("what of a count", () -> deck.count(wrong));
        }
    }

    private static void dueNoSuch(Check check, RuleDeck deck, int wrong) {
        check.dueNoSuch("polygon of cell " + wrong, () -> deck.polygon(wrong, 0));
        check.dueNoSuch("corner of polygon " + wrong, () -> deck.corner(wrong, 0, 0));
        check.dueNoSuch("voltage of polygon " + wrong, () -> deck.voltage(wrong, 0));
        check.dueNoSuch("place in cell " + wrong, () -> deck.place(wrong, 1, 0, 0, 0));
        check.dueNoSuch("place of cell " + wrong, () -> deck.place(0, wrong, 0, 0, 0));
        check.dueNoSuch("run rule " + wrong, () -> deck.run(wrong, 0, true));
        check.dueNoSuch("run cell " + wrong, () -> deck.run(0, wrong, false));
        check.dueNoSuch("same rule " + wrong, () -> deck.same(wrong, 0));
        check.dueNoSuch("same cell " + wrong, () -> deck.same(0, wrong));
        check.dueNoSuch("violation " + wrong, () -> deck.violation(wrong, 0));
        check.dueNoSuch("cellOf " + wrong, () -> deck.cellOf(wrong));
        check.dueNoSuch("waive " + wrong, () -> deck.waive(wrong));
        check.dueNoSuch("occurrences of cell " + wrong, () -> deck.occurrences(wrong));
    }

    private static void asManyAsThereCanBe(Check check) {
        check.by(TERMS, "IllegalStateException: there are as many as there can be");
        RuleDeck deck = full();
        check.dueFull("cells", deck::cell);
        check.dueFull("polygons", () -> deck.polygon(0, 0));
        check.dueFull("corners", () -> deck.corner(0, 0, 0));
        check.due("corners of another one", deck.corner(1, 0, 0), true);
        check.dueFull("places", () -> deck.place(0, 1, 0, 0, 0));
        RuleDeck waived = fortyWaived();
        check.dueFull("waived ones", () -> waived.waive(40));
    }

    private static void outOfRange(Check check) {
        check.by(TERMS, "IllegalArgumentException: a number is out of its range");
        RuleDeck deck = Check.deck(1, 2, "a=area 0<9;");
        deck.polygon(0, 0);
        deck.run(0, 0, true);
        for (int sign = -1; sign <= 1; sign += 2) {
            int by = sign;
            check.due("corner at the edge", Check.thrownBy(() -> deck.corner(0, by * 10000, by * 10000)), "nothing");
            check.dueOutOfRange("corner's x", () -> deck.corner(0, by * 10001, 0));
            check.dueOutOfRange("corner's y", () -> deck.corner(0, 0, by * 10001));
            check.due("place at the edge", Check.thrownBy(() -> deck.place(0, 1, by * 10000, by * 10000, 7)), "nothing");
            check.dueOutOfRange("place's x", () -> deck.place(0, 1, by * 10001, 0, 0));
            check.dueOutOfRange("place's y", () -> deck.place(0, 1, 0, by * 10001, 0));
            check.due("voltage at the edge", Check.thrownBy(() -> deck.voltage(0, by * 1000000)), "nothing");
            check.dueOutOfRange("voltage", () -> deck.voltage(0, by * 1000001));
        }
        check.dueOutOfRange("turn", () -> deck.place(0, 1, 0, 0, 8));
        check.dueOutOfRange("turn", () -> deck.place(0, 1, 0, 0, -1));
        check.dueOutOfRange("box by x", () -> deck.changed(1, 0, 0, 0));
        check.dueOutOfRange("box by y", () -> deck.changed(0, 1, 0, 0));
    }

    private static void tooManyOccurrences(Check check) {
        check.by(TERMS, "UnsupportedOperationException: the cell has more than 100 occurrences");
        RuleDeck deck = Check.deck(1, 2, "a=count 0<200;b=area 0<1;");
        for (int i = 0; i < 4; i++) {
            Check.box(deck, 1, 0, 0, 0, 1, 1);
        }
        for (int i = 0; i < 25; i++) {
            deck.place(0, 1, 0, 0, 0);
        }
        check.due("100", deck.occurrences(0), 100);
        for (String kind : new String[] {"width 0", "notch 0", "area 0", "edge 0", "corners 0", "density 0", "count 0", "space 0 0",
            "corner 0 0", "enclose 0 0", "overlap 0 0"}) {
            Check.read(deck, "a=" + kind + "<0;");
            check.due(kind + " of 100", Check.run(deck, 0, 0, true), "");
        }
        Check.read(deck, "a=count 0<200;b=area 0<1;");
        dueRun(check, deck, true, "0 0 1 1 -1 -1 100 @0");
        dueRun(check, deck, false, "0 0 1 1 -1 -1 100 @0");
        check.due("same", deck.same(0, 0), true);
        Check.box(deck, 0, 0, 0, 0, 1, 1);
        check.dueTooMany("101", () -> deck.occurrences(0));
        for (int i = 0; i < 2; i++) {
            int rule = i;
            check.dueTooMany("101 flat", () -> deck.run(rule, 0, true));
            check.dueTooMany("101 by cells", () -> deck.run(rule, 0, false));
            check.dueTooMany("101 same", () -> deck.same(rule, 0));
        }
        check.due("the cell below", deck.occurrences(1), 4);
        check.due("the cell below", deck.run(0, 1, true), 1);
        RuleDeck towers = tooMany();
        check.dueTooMany("128", () -> towers.occurrences(0));
        check.due("64", towers.occurrences(1), 64);
    }

    /** 93 stairs with 16 edges, one with 8 and a box have 1500 edges. */
    private static RuleDeck edges1500() {
        RuleDeck deck = Check.deck(2, 2, "a=edge 0<99;b=edge 1<99;");
        long[] stairs = {0, 0, 7, 0, 7, 1, 6, 1, 6, 2, 5, 2, 5, 3, 4, 3, 4, 4, 3, 4, 3, 5, 2, 5, 2, 6, 1, 6, 1, 7, 0, 7};
        for (int i = 0; i < 3; i++) {
            Check.polygon(deck, 1, 0, stairs);
        }
        for (int i = 0; i < 31; i++) {
            deck.place(0, 1, 0, 0, 0);
        }
        Check.polygon(deck, 0, 0, 0, 0, 3, 0, 3, 1, 2, 1, 2, 2, 1, 2, 1, 3, 0, 3);
        Check.box(deck, 0, 0, 0, 0, 1, 1);
        Check.box(deck, 0, 1, 0, 0, 1, 1);
        return deck;
    }

    private static void tooManyViolationsFlat(Check check) {
        check.by(TERMS, "or there would be more than 1500 violations (flat");
        RuleDeck deck = edges1500();
        check.due("1500", deck.run(0, 0, true), 1500);
        check.due("1500 same", deck.same(0, 0), true);
        check.due("the last one", Check.told(deck, 1499), "7 0 7 1 2 -1 1 @1");
        // One edge of six is below 99.
        Check.polygon(deck, 0, 0, 0, 0, 200, 0, 200, 1, 100, 1, 100, 200, 0, 200);
        check.dueTooMany("1501", () -> deck.run(0, 0, true));
        check.dueTooMany("1501 same", () -> deck.same(0, 0));
        check.due("by cells", deck.run(0, 0, false), 48 + 12 + 1);
        check.due("another rule", deck.run(1, 0, true), 4);
        check.by(TERMS, "waived ones, too");
        RuleDeck waived = edges1500();
        waived.run(0, 0, true);
        check.due("waive", waived.waive(1499), true);
        check.due("1500, of which 31 are waived", waived.run(0, 0, true), 1500 - 31);
        Check.polygon(waived, 0, 0, 0, 0, 200, 0, 200, 1, 100, 1, 100, 200, 0, 200);
        check.dueTooMany("1501, of which 31 are waived", () -> waived.run(0, 0, true));
        check.dueTooMany("1501, of which 31 are waived, same", () -> waived.same(0, 0));
    }

    /** 30 boxes to the left of 50, in 6 places of one cell and 10 of another one: 1500 gaps of 25 pairs. */
    private static RuleDeck gaps1500() {
        RuleDeck deck = Check.deck(1, 3, "a=space 0 0<3;");
        for (int i = 0; i < 5; i++) {
            Check.box(deck, 1, 0, 0, 0, 2, 2);
            Check.box(deck, 2, 0, 4, 0, 6, 2);
        }
        for (int i = 0; i < 16; i++) {
            deck.place(0, i < 6 ? 1 : 2, 0, 0, 0);
        }
        return deck;
    }

    private static void tooManyViolationsByCells(Check check) {
        check.by(TERMS, "or by cells before alike ones are one");
        RuleDeck deck = gaps1500();
        check.due("1500 that are 25", deck.run(0, 0, false), 25);
        check.due("1500 flat", deck.run(0, 0, true), 1500);
        Check.box(deck, 0, 0, 50, 0, 52, 2);
        check.due("1500 still", deck.run(0, 0, false), 25);
        Check.box(deck, 0, 0, 54, 0, 56, 2);
        check.dueTooMany("1501 by cells", () -> deck.run(0, 0, false));
        check.dueTooMany("1501 flat", () -> deck.run(0, 0, true));
        check.dueTooMany("1501 same", () -> deck.same(0, 0));
        check.by(TERMS, "waived ones, too");
        RuleDeck waived = gaps1500();
        waived.run(0, 0, false);
        check.due("waive", waived.waive(7), true);
        check.due("1500, of which 60 are waived", waived.run(0, 0, false), 24);
        Check.box(waived, 0, 0, 50, 0, 52, 2);
        Check.box(waived, 0, 0, 54, 0, 56, 2);
        check.dueTooMany("1501, of which 60 are waived", () -> waived.run(0, 0, false));
    }

    private static void refusedCallsChangeNothing(Check check) {
        check.by(TERMS, "A call that throws changes nothing");
        RuleDeck deck = full();
        Check.type(deck, "x=");
        deck.run(0, 0, true);
        String before = Check.state(deck, 16);
        check.dueFull("cell", deck::cell);
        check.dueFull("polygon", () -> deck.polygon(0, 0));
        check.dueNoSuch("polygon", () -> deck.polygon(0, 1));
        check.dueFull("corner", () -> deck.corner(0, 0, 1));
        check.dueNoSuch("corner", () -> deck.corner(64, 0, 1));
        check.dueFull("place", () -> deck.place(0, 1, 0, 0, 0));
        check.dueNoSuch("count", () -> deck.count(5));
        check.dueNoSuch("violation", () -> deck.violation(0, 0));
        check.dueOutOfRange("changed", () -> deck.changed(1, 0, 0, 0));
        check.due("all is as before", Check.state(deck, 16), before);
        RuleDeck corners = Check.deck(1, 2);
        Check.polygon(corners, 0, 0, 0, 0, 2, 0, 2, 2);
        check.dueOutOfRange("a corner too far", () -> corners.corner(0, 2, 10001));
        check.dueOutOfRange("a place too far", () -> corners.place(0, 1, 10001, 0, 0));
        check.dueOutOfRange("too high", () -> corners.voltage(0, 1000001));
        check.due("the corner before is the same", corners.corner(0, 0, 2), true);
        check.due("a box", corners.occurrences(0), 1);
        check.due("no place came", corners.place(0, 1, 0, 0, 0), 0);
        check.due("the voltage is 0", corners.voltage(0, 0), false);
        RuleDeck waived = fortyWaived();
        String beforeWaive = Check.state(waived, 1);
        check.dueFull("waive", () -> waived.waive(40));
        check.due("all is as before", Check.state(waived, 1), beforeWaive);
        check.due("it is told", waived.run(0, 0, true), 1);
    }

    private static void refusedRunsChangeNothing(Check check) {
        check.by(TERMS, "A call that throws changes nothing");
        for (int flat = 0; flat < 2; flat++) {
            RuleDeck deck = edges1500();
            Check.polygon(deck, 0, 0, 0, 0, 200, 0, 200, 1, 100, 1, 100, 200, 0, 200);
            deck.run(1, 0, flat == 1);
            String before = Check.state(deck, 2);
            check.dueTooMany("run flat", () -> deck.run(0, 0, true));
            check.dueTooMany("same", () -> deck.same(0, 0));
            check.dueNoSuch("run", () -> deck.run(2, 0, false));
            check.dueNoSuch("same", () -> deck.same(0, 2));
            check.due("all is as before", Check.state(deck, 2), before);
            check.due("what is waived is of the run before", deck.waive(0), true);
            check.due("it is waived", deck.run(1, 0, true), 3);
        }
        RuleDeck byCells = gaps1500();
        byCells.run(0, 1, true);
        Check.box(byCells, 0, 0, 50, 0, 52, 2);
        Check.box(byCells, 0, 0, 54, 0, 56, 2);
        String before = Check.state(byCells, 3);
        check.dueTooMany("run by cells", () -> byCells.run(0, 0, false));
        check.due("all is as before", Check.state(byCells, 3), before);
        RuleDeck towers = tooMany();
        towers.run(0, 6, true);
        String beforeTowers = Check.state(towers, 8);
        check.dueTooMany("run", () -> towers.run(0, 0, true));
        check.dueTooMany("run by cells", () -> towers.run(0, 0, false));
        check.dueTooMany("same", () -> towers.same(0, 0));
        check.dueTooMany("occurrences", () -> towers.occurrences(0));
        check.due("all is as before", Check.state(towers, 8), beforeTowers);
    }
}
