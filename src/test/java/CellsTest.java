/** Promises 10 to 12 and 15 over cells in cells: turns, lowest cells, orders, alike ones and limits. */
public final class CellsTest {
    public static void main(String[] args) {
        Check check = new Check();
        turnsAndMoves(check);
        asksTheLowestCellWhichIsFirst(check);
        tellsPairsInTheLowestCell(check);
        tellsAlikeOnesOnceByCells(check);
        sortsByCellsFirst(check);
        sortsFlatByBoxThenCell(check);
        asksDensityOfTheCellAlone(check);
        boundsViolations(check);
        keepsTheLatestRun(check);
        refusesWrongNumbers(check);
        check.end();
    }

    private static void due(Check check, RuleDeck deck, int rule, int cell, boolean flat, String want) {
        check.due("run " + rule + " of " + cell + (flat ? " flat" : " by cells"), Check.run(deck, rule, cell, flat), want);
    }

    private static void turnsAndMoves(Check check) {
        String[] boxes = {"101 202 104 207", "93 201 98 204", "96 193 99 198", "102 196 107 199",
            "101 193 104 198", "102 201 107 204", "96 202 99 207", "93 196 98 199"};
        for (int turn = 0; turn < 8; turn++) {
            RuleDeck deck = Check.deck(1, 2, "a=area 0<99;");
            Check.box(deck, 0, 0, 1, 2, 4, 7);
            deck.place(1, 0, 100, 200, turn);
            due(check, deck, 0, 1, true, boxes[turn] + " 0 -1 15 @0");
            due(check, deck, 0, 1, false, "1 2 4 7 0 -1 15 @0");
        }
        for (int turn = 0; turn < 8; turn++) {
            for (int outer = 0; outer < 8; outer++) {
                RuleDeck deck = Check.deck(1, 3, "a=edge 0<2;");
                Check.box(deck, 0, 0, 1, 2, 2, 7);
                deck.place(1, 0, 10, 20, turn);
                deck.place(2, 1, 0, 0, outer);
                check.due("edges", deck.run(0, 2, true), 2);
                check.due("the same", deck.same(0, 2), true);
            }
        }
        RuleDeck deck = Check.deck(1, 3, "a=area 0<99;");
        Check.box(deck, 0, 0, 1, 2, 4, 7);
        deck.place(1, 0, 10, 20, 5);
        deck.place(2, 1, 100, 200, 4);
        // Mirrored, turned and moved: 12 21 17 24; then mirrored and moved once more.
        due(check, deck, 0, 2, true, "112 176 117 179 0 -1 15 @0");
        RuleDeck deep = Check.deck(1, 16, "a=area 0<9;b=count 0<2;c=space 0 0<9;");
        Check.box(deep, 0, 0, 9999, -10000, 10000, -9999);
        for (int i = 1; i < 16; i++) {
            deep.place(i, i - 1, 10000, -10000, 0);
        }
        due(check, deep, 0, 15, true, "159999 -160000 160000 -159999 0 -1 1 @0");
        due(check, deep, 0, 15, false, "9999 -10000 10000 -9999 0 -1 1 @0");
        due(check, deep, 1, 15, false, "159999 -160000 160000 -159999 -1 -1 1 @15");
        deep.place(15, 14, 9998, -10000, 0);
        deep.place(15, 14, 9996, -10000, 0);
        due(check, deep, 2, 15, true, "159996 -160000 159997 -159999 0 0 1 @15, 159996 -160000 159999 -159999 0 0 3 @15, "
                + "159998 -160000 159999 -159999 0 0 1 @15");
    }

    /** Turned by two quarters the other one lies to the left, but first stays what it is in the lowest cell. */
    private static void asksTheLowestCellWhichIsFirst(Check check) {
        RuleDeck deck = Check.deck(1, 2, "a=space 0 0<4;b=corner 0 0<3;c=overlap 0 0<2;");
        Check.box(deck, 0, 0, 0, 0, 2, 2);
        Check.box(deck, 0, 0, 5, 0, 7, 2);
        Check.box(deck, 0, 0, 9, 4, 11, 6);
        Check.box(deck, 0, 0, 10, 4, 13, 6);
        deck.place(1, 0, 0, 0, 2);
        due(check, deck, 0, 0, true, "2 0 5 2 0 1 3 @0");
        due(check, deck, 0, 1, true, "-5 -2 -2 0 0 1 3 @0");
        due(check, deck, 1, 1, true, "-9 -4 -7 -2 1 2 8 @0");
        due(check, deck, 2, 1, true, "-11 -6 -10 -4 2 3 1 @0");
        deck.place(1, 0, 0, 40, 1);
        due(check, deck, 1, 1, true, "-9 -4 -7 -2 1 2 8 @0, -4 47 -2 49 1 2 8 @0");
    }

    private static void tellsPairsInTheLowestCell(Check check) {
        RuleDeck deck = Check.deck(1, 4, "a=space 0 0<3;");
        Check.box(deck, 0, 0, 0, 0, 2, 2);
        deck.place(1, 0, 0, 0, 0);
        deck.place(1, 0, 4, 0, 0);
        Check.box(deck, 1, 0, 8, 0, 9, 2);
        deck.place(2, 1, 100, 0, 0);
        deck.place(2, 1, 100, 4, 0);
        deck.place(3, 2, 0, 0, 1);
        due(check, deck, 0, 0, true, "");
        due(check, deck, 0, 1, true, "2 0 4 2 0 0 2 @1, 6 0 8 2 0 1 2 @1");
        due(check, deck, 0, 2, false, "2 0 4 2 0 0 2 @1, 6 0 8 2 0 1 2 @1, "
                + "100 2 102 4 0 0 2 @2, 104 2 106 4 0 0 2 @2, 108 2 109 4 1 1 2 @2");
        due(check, deck, 0, 3, true, "-6 102 -4 104 0 0 2 @1, -6 106 -4 108 0 1 2 @1, "
                + "-4 100 -2 102 0 0 2 @2, -4 104 -2 106 0 0 2 @2, -4 108 -2 109 1 1 2 @2, "
                + "-2 102 0 104 0 0 2 @1, -2 106 0 108 0 1 2 @1");
        check.due("the same", deck.same(0, 3), true);
        check.due("the latest run stays", deck.count(2), 7);
    }

    private static void tellsAlikeOnesOnceByCells(Check check) {
        RuleDeck deck = Check.deck(1, 2, "a=space 0 0<3;b=area 0<9;");
        Check.box(deck, 0, 0, 0, 0, 2, 2);
        Check.box(deck, 1, 0, 4, 0, 6, 2);
        for (int i = 0; i < 3; i++) {
            deck.place(1, 0, 0, 0, 0);
        }
        due(check, deck, 0, 1, false, "2 0 4 2 0 1 2 @1");
        due(check, deck, 0, 1, true, "2 0 4 2 0 1 2 @1, 2 0 4 2 0 1 2 @1, 2 0 4 2 0 1 2 @1");
        due(check, deck, 1, 1, false, "0 0 2 2 0 -1 4 @0, 4 0 6 2 1 -1 4 @1");
        due(check, deck, 1, 1, true, "0 0 2 2 0 -1 4 @0, 0 0 2 2 0 -1 4 @0, 0 0 2 2 0 -1 4 @0, 4 0 6 2 1 -1 4 @1");
        check.due("the same, as often as one likes", deck.same(0, 1) && deck.same(1, 1), true);
    }

    private static void sortsByCellsFirst(Check check) {
        RuleDeck deck = Check.deck(1, 3, "a=area 0<99;");
        Check.box(deck, 2, 0, -9, -9, -8, -8);
        Check.box(deck, 0, 0, 5, 5, 6, 6);
        Check.box(deck, 0, 0, 5, 5, 6, 6);
        Check.box(deck, 0, 0, 5, 4, 6, 6);
        Check.box(deck, 1, 0, 0, 0, 1, 1);
        deck.place(0, 2, 0, 0, 0);
        due(check, deck, 0, 0, false, "5 4 6 6 3 -1 2 @0, 5 5 6 6 1 -1 1 @0, 5 5 6 6 2 -1 1 @0, -9 -9 -8 -8 0 -1 1 @2");
        due(check, deck, 0, 0, true, "-9 -9 -8 -8 0 -1 1 @2, 5 4 6 6 3 -1 2 @0, 5 5 6 6 1 -1 1 @0, 5 5 6 6 2 -1 1 @0");
    }

    private static void sortsFlatByBoxThenCell(Check check) {
        // The pair of polygons 0 and 0 meets in cells 2 and 1, at the same box of cell 3.
        RuleDeck deck = Check.deck(1, 4, "a=space 0 0<3;");
        Check.box(deck, 0, 0, 0, 0, 2, 2);
        for (int cell = 1; cell <= 2; cell++) {
            deck.place(cell, 0, 0, 0, 0);
            deck.place(cell, 0, 4, 0, 0);
        }
        deck.place(3, 2, 0, 0, 0);
        deck.place(3, 1, 0, 0, 0);
        int size = deck.run(0, 3, true);
        check.due("pairs", size, 4);
        int[] cells = {1, 2, 3, 3};
        for (int k = 0; k < size; k++) {
            check.due("violation", Check.told(deck, k), "2 0 4 2 0 0 2 @" + cells[k]);
        }
        due(check, deck, 0, 3, false, "2 0 4 2 0 0 2 @1, 2 0 4 2 0 0 2 @2, 2 0 4 2 0 0 2 @3");
    }

    private static void asksDensityOfTheCellAlone(Check check) {
        RuleDeck deck = Check.deck(2, 3, "a=density 0<101;b=count 0<9;c=density 1<1;");
        Check.box(deck, 0, 0, 0, 0, 2, 2);
        deck.place(1, 0, 10, 10, 0);
        deck.place(1, 0, 14, 10, 0);
        due(check, deck, 0, 1, true, "10 10 16 12 -1 -1 66 @1");
        due(check, deck, 0, 1, false, "10 10 16 12 -1 -1 66 @1");
        due(check, deck, 1, 1, false, "10 10 16 12 -1 -1 2 @1");
        due(check, deck, 2, 1, false, "10 10 16 12 -1 -1 0 @1");
        deck.place(1, 2, 0, 0, 0);
        due(check, deck, 0, 2, false, "0 0 0 0 -1 -1 0 @2");
        due(check, deck, 1, 2, true, "0 0 0 0 -1 -1 0 @2");
        check.due("the same", deck.same(0, 1) && deck.same(1, 1) && deck.same(0, 2) && deck.same(1, 2), true);
    }

    /** Combs with 16 edges each that are told: 93 of them and one of 12 make 1500, and one edge more is too much. */
    private static void boundsViolations(Check check) {
        RuleDeck deck = Check.deck(2, 3, "a=edge 0<99;b=edge 1<99;");
        long[] comb = {0, 0, 7, 0, 7, 1, 6, 1, 6, 2, 5, 2, 5, 3, 4, 3, 4, 4, 3, 4, 3, 5, 2, 5, 2, 6, 1, 6, 1, 7, 0, 7};
        Check.polygon(deck, 0, 0, comb);
        Check.polygon(deck, 0, 0, comb);
        Check.polygon(deck, 0, 0, comb);
        for (int i = 0; i < 31; i++) {
            deck.place(1, 0, 0, 0, 0);
        }
        check.due("31 times 3 times 16", deck.run(0, 1, true), 1488);
        deck.waive(0);
        deck.waive(1000);
        Check.polygon(deck, 1, 0, 0, 0, 3, 0, 3, 1, 2, 1, 2, 2, 1, 2, 1, 3, 0, 3);
        Check.box(deck, 1, 0, 0, 0, 1, 1);
        check.due("1500, less what is waived", deck.run(0, 1, true), 1500 - 31 - 31);
        check.due("the same", deck.same(0, 1), true);
        int spare = Check.box(deck, 1, 1, 0, 0, 1, 1);
        check.due("another layer", deck.run(0, 1, true), 1500 - 31 - 31);
        check.due("by cells", deck.run(0, 1, false), 48 + 12 - 2);
        // One edge of six is below 99.
        Check.polygon(deck, 1, 0, 0, 0, 200, 0, 200, 1, 100, 1, 100, 200, 0, 200);
        check.dueThrows("1501, with what is waived", UnsupportedOperationException.class, () -> deck.run(0, 1, true));
        check.dueThrows("1501", UnsupportedOperationException.class, () -> deck.same(0, 1));
        check.due("the latest run stays", deck.count(2), 58);
        check.dueThrows("and is not flat", IllegalStateException.class, () -> deck.changed(0, 0, 1, 1));
        check.due("by cells", deck.run(0, 1, false), 48 + 13 - 2);
        check.due("others", deck.run(1, 1, true), 4);
        check.due("others", deck.violation(0, 4), spare);
        boundsViolationsByCells(check);
    }

    /** Alike ones count by cells before they are one: 32 places of a cell at one place make 496 pairs. */
    private static void boundsViolationsByCells(Check check) {
        RuleDeck deck = Check.deck(2, 2, "a=enclose 0 0<1;b=enclose 0 0<1 run 3;");
        Check.box(deck, 0, 0, 0, 0, 2, 2);
        for (int i = 0; i < 19; i++) {
            deck.place(1, 0, 0, 0, 0);
        }
        check.due("171 pairs, each way, 4 sides", deck.run(0, 1, false), 4);
        check.due("flat", deck.run(0, 1, true), 171 * 2 * 4);
        deck.place(1, 0, 0, 0, 0);
        check.dueThrows("190 pairs", UnsupportedOperationException.class, () -> deck.run(0, 1, false));
        check.dueThrows("190 pairs", UnsupportedOperationException.class, () -> deck.run(0, 1, true));
        check.dueThrows("190 pairs", UnsupportedOperationException.class, () -> deck.same(0, 1));
        check.due("the latest run stays", deck.changed(0, 0, 0, 0), 171 * 2 * 2);
        check.due("none is over the other by 3", deck.run(1, 1, false), 0);
    }

    private static void keepsTheLatestRun(Check check) {
        RuleDeck deck = Check.deck(1, 2, "a=area 0<9;b=area 0<5;");
        Check.box(deck, 0, 0, 0, 0, 2, 2);
        String told = "0 0 2 2 0 -1 4 @0";
        due(check, deck, 0, 0, true, told);
        deck.corner(0, 0, 1);
        check.due("as it was", Check.told(deck, 0), told);
        deck.place(1, 0, 5, 5, 0);
        Check.box(deck, 0, 0, -3, -3, -2, -2);
        check.due("as it was", Check.told(deck, 0), told);
        check.due("as it was", deck.count(2), 1);
        check.due("asked aside", deck.same(1, 1), true);
        check.due("as it was", Check.told(deck, 0), told);
        check.dueThrows("no such rule", IndexOutOfBoundsException.class, () -> deck.run(2, 0, false));
        check.due("as it was", deck.changed(0, 0, 0, 0), 1);
        due(check, deck, 0, 0, true, "-3 -3 -2 -2 1 -1 1 @0");
    }

    private static void refusesWrongNumbers(Check check) {
        RuleDeck deck = Check.deck(1, 1, "a=area 0<9;");
        Check.box(deck, 0, 0, 0, 0, 2, 2);
        for (int wrong : new int[] {-1, 1, Integer.MIN_VALUE, Integer.MAX_VALUE}) {
            check.dueThrows("rule", IndexOutOfBoundsException.class, () -> deck.run(wrong, 0, true));
            check.dueThrows("cell", IndexOutOfBoundsException.class, () -> deck.run(0, wrong, false));
            check.dueThrows("rule", IndexOutOfBoundsException.class, () -> deck.same(wrong, 0));
            check.dueThrows("cell", IndexOutOfBoundsException.class, () -> deck.same(0, wrong));
        }
        check.due("run", deck.run(0, 0, true), 1);
        for (int wrong : new int[] {-1, 1, Integer.MIN_VALUE, Integer.MAX_VALUE}) {
            check.dueThrows("violation", IndexOutOfBoundsException.class, () -> deck.violation(wrong, 0));
            check.dueThrows("cellOf", IndexOutOfBoundsException.class, () -> deck.cellOf(wrong));
            check.dueThrows("waive", IndexOutOfBoundsException.class, () -> deck.waive(wrong));
        }
        for (int wrong : new int[] {-1, 7, Integer.MIN_VALUE, Integer.MAX_VALUE}) {
            check.dueThrows("what", IndexOutOfBoundsException.class, () -> deck.violation(0, wrong));
        }
    }
}
