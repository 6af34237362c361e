/** Promises 13, 14 and 16: what is waived, what a box touches, and how many there are. */
public final class WaiveTest {
    public static void main(String[] args) {
        Check check = new Check();
        waivesInTheLowestCell(check);
        waivesWhateverTheMeasure(check);
        waivesOnePairAlone(check);
        waivesOneRuleAlone(check);
        waivesFortyAtMost(check);
        waivesWholeCells(check);
        touchesBoxes(check);
        countsKinds(check);
        check.end();
    }

    private static void waivesInTheLowestCell(Check check) {
        RuleDeck deck = Check.deck(1, 2, "a=area 0<9;");
        Check.box(deck, 0, 0, 0, 0, 2, 2);
        Check.box(deck, 1, 0, 9, 9, 10, 10);
        deck.place(1, 0, 0, 0, 0);
        deck.place(1, 0, 20, 0, 1);
        check.due("flat", deck.run(0, 1, true), 3);
        check.due("waive", deck.waive(2), true);
        check.due("waived already", deck.waive(2), false);
        check.due("the same in its cell", deck.waive(0), false);
        check.due("waived", deck.count(3), 1);
        check.due("told still", deck.count(2), 3);
        check.due("told still", Check.told(deck, 2), "18 0 20 2 0 -1 4 @0");
        check.due("flat", Check.run(deck, 0, 1, true), "9 9 10 10 1 -1 1 @1");
        check.due("by cells", Check.run(deck, 0, 1, false), "9 9 10 10 1 -1 1 @1");
        check.due("its own cell", deck.run(0, 0, true), 0);
        check.due("the same", deck.same(0, 1), true);
        Check.box(deck, 0, 0, 0, 0, 2, 2);
        check.due("another polygon there", Check.run(deck, 0, 0, true), "0 0 2 2 2 -1 4 @0");
        deck.place(1, 0, 30, 0, 0);
        check.due("places more", deck.run(0, 1, true), 4);
    }

    /** Rule, cell, box and polygons make the waiver: the area may change. */
    private static void waivesWhateverTheMeasure(Check check) {
        RuleDeck deck = Check.deck(1, 1, "a=area 0<99;");
        int growing = Check.polygon(deck, 0, 0, 0, 0, 4, 0, 4, 4, 0, 4);
        check.due("run", Check.run(deck, 0, 0, true), "0 0 4 4 0 -1 16 @0");
        check.due("waive", deck.waive(0), true);
        deck.corner(growing, 0, 2);
        check.due("no polygon", deck.run(0, 0, true), 0);
        deck.corner(growing, 1, 2);
        deck.corner(growing, 1, 1);
        deck.corner(growing, 0, 1);
        check.due("its box is the same, its area is not", deck.occurrences(0), 1);
        check.due("waived", deck.run(0, 0, true), 0);
        check.due("waived", deck.run(0, 0, false), 0);
    }

    /** The same gap between other polygons is another violation. */
    private static void waivesOnePairAlone(Check check) {
        RuleDeck deck = Check.deck(1, 1, "a=space 0 0<4;");
        for (int i = 0; i < 2; i++) {
            Check.box(deck, 0, 0, 0, 0, 2, 2);
            Check.box(deck, 0, 0, 5, 0, 7, 2);
        }
        String gap = "2 0 5 2 ";
        check.due("run", Check.run(deck, 0, 0, true), gap + "0 1 3 @0, " + gap + "0 3 3 @0, " + gap + "2 1 3 @0, " + gap + "2 3 3 @0");
        check.due("waive", deck.waive(1), true);
        check.due("run", Check.run(deck, 0, 0, true), gap + "0 1 3 @0, " + gap + "2 1 3 @0, " + gap + "2 3 3 @0");
        check.due("waive", deck.waive(1), true);
        check.due("by cells", Check.run(deck, 0, 0, false), gap + "0 1 3 @0, " + gap + "2 3 3 @0");
        check.due("waived", deck.count(3), 2);
    }

    private static void waivesOneRuleAlone(Check check) {
        RuleDeck deck = Check.deck(1, 2, "a=area 0<9;b=area 0<9;");
        Check.box(deck, 0, 0, 0, 0, 2, 2);
        deck.run(0, 0, false);
        check.due("waive", deck.waive(0), true);
        check.due("the other rule", deck.run(1, 0, false), 1);
        check.due("waive", deck.waive(0), true);
        check.due("waived", deck.count(3), 2);
        check.due("none", deck.run(0, 0, true) + deck.run(1, 0, true), 0);
        deck.unit('?');
        check.due("a wrong text", deck.read(), -1);
        check.due("waived still", deck.count(3), 2);
    }

    private static void waivesFortyAtMost(Check check) {
        RuleDeck deck = Check.deck(1, 2, "a=area 0<9;");
        for (int i = 0; i < 42; i++) {
            Check.box(deck, 0, 0, i, 0, i + 1, 1);
        }
        deck.place(1, 0, 0, 0, 0);
        deck.place(1, 0, 0, 5, 0);
        check.due("run", deck.run(0, 1, true), 84);
        for (int k = 0; k < 40; k++) {
            check.due("waive", deck.waive(2 * k), true);
        }
        check.due("waived", deck.count(3), 40);
        check.dueThrows("one more", IllegalStateException.class, () -> deck.waive(80));
        check.dueThrows("no such violation comes first", IndexOutOfBoundsException.class, () -> deck.waive(84));
        check.due("one that is waived", deck.waive(41), false);
        check.due("run", deck.run(0, 1, true), 4);
        check.dueThrows("one more", IllegalStateException.class, () -> deck.waive(0));
        check.due("waived", deck.count(3), 40);
    }

    private static void waivesWholeCells(Check check) {
        RuleDeck deck = Check.deck(1, 2, "a=density 0<101;b=count 0<9;");
        Check.box(deck, 0, 0, 0, 0, 2, 2);
        deck.place(1, 0, 0, 0, 0);
        deck.run(0, 1, true);
        check.due("waive", deck.waive(0), true);
        check.due("none", deck.run(0, 1, false), 0);
        check.due("the other cell", deck.run(0, 0, false), 1);
        check.due("the other rule", deck.run(1, 1, false), 1);
        check.due("the same", deck.same(0, 1), true);
    }

    private static void touchesBoxes(Check check) {
        RuleDeck deck = Check.deck(1, 1, "a=area 0<99;b=area 0<1;");
        Check.box(deck, 0, 0, 0, 0, 4, 6);
        Check.box(deck, 0, 0, 10, 10, 12, 12);
        check.dueThrows("nothing was run", IllegalStateException.class, () -> deck.changed(0, 0, 1, 1));
        check.dueThrows("that comes first", IllegalStateException.class, () -> deck.changed(1, 1, 0, 0));
        deck.run(0, 0, true);
        check.due("all", deck.changed(Long.MIN_VALUE, Long.MIN_VALUE, Long.MAX_VALUE, Long.MAX_VALUE), 2);
        check.due("inside", deck.changed(2, 2, 2, 2), 1);
        check.due("between", deck.changed(5, 7, 9, 9), 0);
        check.due("at a corner", deck.changed(4, 6, 10, 10), 2);
        check.due("at the left", deck.changed(-5, 3, 0, 3), 1);
        check.due("beside the left", deck.changed(-5, 3, -1, 3), 0);
        check.due("at the right", deck.changed(4, 3, 9, 3), 1);
        check.due("beside the right", deck.changed(5, 3, 9, 3), 0);
        check.due("below", deck.changed(1, -9, 2, 0), 1);
        check.due("still below", deck.changed(1, -9, 2, -1), 0);
        check.due("above", deck.changed(1, 6, 2, 9), 1);
        check.due("still above", deck.changed(1, 7, 2, 9), 0);
        check.dueThrows("x", IllegalArgumentException.class, () -> deck.changed(2, 0, 1, 0));
        check.dueThrows("y", IllegalArgumentException.class, () -> deck.changed(0, 2, 0, 1));
        deck.waive(0);
        check.due("what is waived later was told", deck.changed(2, 2, 2, 2), 1);
        deck.run(0, 0, false);
        check.dueThrows("not flat", IllegalStateException.class, () -> deck.changed(0, 0, 1, 1));
        check.dueThrows("that comes first", IllegalStateException.class, () -> deck.changed(1, 1, 0, 0));
        check.due("a run that tells nothing", deck.run(1, 0, true), 0);
        check.due("nothing", deck.changed(0, 0, 1, 1), 0);
    }

    private static void countsKinds(Check check) {
        RuleDeck deck = new RuleDeck(1);
        String all = "a=width 0<1;b=notch 0<1;c=area 0<1;d=edge 0<1;e=corners 0<1;f=density 0<1;g=count 0<1;"
                + "h=space 0 0<1;i=corner 0 0<1;j=enclose 0 0<1;k=overlap 0 0<1;";
        check.due("read", Check.read(deck, all), 11);
        check.due("kinds", deck.count(1), 11);
        check.due("read", Check.read(deck, "a=area 0<1;b=edge 0<2;c=area 0<2;d=edge 0<1;e=area 0<1;"), 5);
        check.due("rules", deck.count(0), 5);
        check.due("kinds", deck.count(1), 2);
        check.due("no violations", deck.count(2), 0);
    }
}
