/** Promises 10 to 16: a test for each sentence on runs, what they told, what is waived, and what is counted. */
public final class AskingPromisesTest {
    private static final String ALL_KINDS = "a=width 0<1;b=notch 0<1;c=area 0<1;d=edge 0<1;e=corners 0<1;f=density 0<1;g=count 0<1;"
            + "h=space 0 0<1;i=corner 0 0<1;j=enclose 0 0<1;k=overlap 0 0<1;";

    public static void main(String[] args) {
        Check check = new Check();
        run(check);
        runRefused(check);
        violation(check);
        violationAsItWas(check);
        cellOf(check);
        waive(check);
        waiveForty(check);
        changed(check);
        changedRefused(check);
        sameAsFlat(check);
        sameNow(check);
        sameRefused(check);
        count(check);
        lastOf512Calls(check);
        check.end();
    }

    /** Cell 1 with two boxes, one of them small, at two places of cell 0. */
    private static RuleDeck twoPlaces() {
        RuleDeck deck = Check.deck(1, 2, "a=area 0<9;b=space 0 0<3;c=area 0<5;");
        Check.box(deck, 1, 0, 0, 0, 2, 2);
        Check.box(deck, 1, 0, 4, 0, 8, 2);
        deck.place(0, 1, 10, 0, 0);
        deck.place(0, 1, 30, 0, 1);
        return deck;
    }

    private static void run(Check check) {
        check.by("Promise 10", "A rule is run on a cell, flat or by cells: how many violations are told");
        RuleDeck deck = twoPlaces();
        check.due("flat", deck.run(0, 0, true), 4);
        check.due("by cells", deck.run(0, 0, false), 2);
        check.due("another rule", deck.run(1, 0, true), 2);
        check.due("another rule by cells", deck.run(1, 0, false), 1);
        check.due("the cell below", deck.run(0, 1, true), 2);
        check.due("a lesser number", deck.run(2, 0, true), 2);
        check.due("waive one", deck.waive(0), true);
        check.due("those that are told alone", deck.run(2, 0, true), 0);
        check.due("as many as are there to be asked", deck.count(2), 0);
    }

    private static void runRefused(Check check) {
        check.by("Promise 10", "IndexOutOfBoundsException; UnsupportedOperationException");
        RuleDeck deck = twoPlaces();
        check.dueNoSuch("rule 3", () -> deck.run(3, 0, true));
        check.dueNoSuch("rule -1", () -> deck.run(-1, 0, true));
        check.dueNoSuch("cell 2", () -> deck.run(0, 2, true));
        check.dueNoSuch("cell -1", () -> deck.run(0, -1, false));
        for (int i = 0; i < 30; i++) {
            deck.place(0, 1, 0, 0, 0);
        }
        for (int i = 0; i < 36; i++) {
            Check.box(deck, 0, 0, 50 * i, 50, 50 * i + 9, 59);
        }
        check.due("100 occurrences", deck.run(2, 0, true), 32);
        Check.box(deck, 0, 0, 0, 70, 9, 79);
        check.dueTooMany("101 flat", () -> deck.run(2, 0, true));
        check.dueTooMany("101 by cells", () -> deck.run(2, 0, false));
        check.dueNoSuch("no rule comes first", () -> deck.run(3, 0, false));
        check.due("the latest run is the one before", deck.count(2), 32);
    }

    private static void violation(Check check) {
        check.by("Promise 11", "what = 0 .. 3 its box's least x, least y, greatest x, greatest y, 4 first, 5 second, 6 the measure");
        RuleDeck deck = Check.deck(1, 1, "a=space 0 0<9;");
        for (int i = 0; i < 3; i++) {
            Check.box(deck, 0, 0, 50, 50 * i + 50, 51, 50 * i + 60);
        }
        Check.box(deck, 0, 0, 7, 2, 9, 20);
        Check.box(deck, 0, 0, -1, -3, 2, 11);
        deck.run(0, 0, true);
        long[] due = {2, 2, 7, 11, 4, 3, 5};
        for (int what = 0; what < 7; what++) {
            check.due("what " + what, deck.violation(0, what), due[what]);
        }
        check.by("Promise 11", "IndexOutOfBoundsException");
        for (int wrong : new int[] {-1, 7, 8, Integer.MIN_VALUE, Integer.MAX_VALUE}) {
            check.dueNoSuch("what " + wrong, () -> deck.violation(0, wrong));
        }
        for (int wrong : new int[] {-1, 1, Integer.MIN_VALUE, Integer.MAX_VALUE}) {
            check.dueNoSuch("violation " + wrong, () -> deck.violation(wrong, 0));
        }
        check.due("a run that tells nothing", Check.read(deck, "a=space 0 0<1;") + deck.run(0, 0, true), 1);
        check.dueNoSuch("violation 0", () -> deck.violation(0, 0));
    }

    private static void violationAsItWas(Check check) {
        check.by("Promise 11", "Of violation k of the latest run (as it was then, whatever is changed behind it)");
        RuleDeck deck = twoPlaces();
        String told = Check.run(deck, 0, 0, true);
        check.due("four are told", told, "10 0 12 2 0 -1 4 @1, 14 0 18 2 1 -1 8 @1, 28 0 30 2 0 -1 4 @1, 28 4 30 8 1 -1 8 @1");
        deck.corner(0, 0, 1);
        deck.voltage(1, 5);
        Check.box(deck, 1, 0, -3, -3, -2, -2);
        deck.place(0, 1, 0, 0, 0);
        deck.cell();
        Check.type(deck, "x=");
        deck.waive(0);
        check.due("a wrong text", deck.read(), -1 - 2);
        check.due("same is asked aside", deck.same(1, 0), true);
        check.dueNoSuch("a run that is refused", () -> deck.run(9, 0, true));
        StringBuilder then = new StringBuilder();
        for (int k = 0; k < deck.count(2); k++) {
            then.append(k == 0 ? "" : ", ").append(Check.told(deck, k));
        }
        check.due("as it was", then.toString(), told);
        check.due("a later run", Check.run(deck, 0, 1, true), "-3 -3 -2 -2 2 -1 1 @1, 4 0 8 2 1 -1 8 @1");
        check.dueNoSuch("what the run before had more", () -> deck.violation(2, 0));
        check.due("runs in turns, by cells and flat", deck.run(0, 1, false) + deck.run(0, 0, true) + deck.run(0, 0, false), 2 + 6 + 2);
        check.due("the latest one", Check.told(deck, 1), "4 0 8 2 1 -1 8 @1");
    }

    private static void cellOf(Check check) {
        check.by("Promise 12", "The cell in which it is met");
        RuleDeck deck = Check.deck(1, 3, "a=space 0 0<3;b=area 0<9;c=count 0<9;");
        Check.box(deck, 2, 0, 0, 0, 2, 2);
        deck.place(1, 2, 0, 0, 0);
        deck.place(1, 2, 4, 0, 0);
        deck.place(0, 1, 0, 0, 0);
        deck.place(0, 1, 8, 0, 0);
        check.due("pairs", deck.run(0, 0, true), 3);
        check.due("of one place of cell 1", deck.cellOf(0), 1);
        check.due("of two places", deck.cellOf(1), 0);
        check.due("of one place of cell 1", deck.cellOf(2), 1);
        check.due("by cells", deck.run(0, 0, false), 2);
        check.due("the lesser number", deck.cellOf(0), 0);
        check.due("the greater number", deck.cellOf(1), 1);
        check.due("of one alone", deck.run(1, 0, true), 4);
        check.due("its own cell", deck.cellOf(3), 2);
        check.due("of the whole", deck.run(2, 1, false), 1);
        check.due("the cell that is asked", deck.cellOf(0), 1);
        check.by("Promise 12", "IndexOutOfBoundsException");
        for (int wrong : new int[] {-1, 1, Integer.MIN_VALUE, Integer.MAX_VALUE}) {
            check.dueNoSuch("violation " + wrong, () -> deck.cellOf(wrong));
        }
    }

    private static void waive(Check check) {
        check.by("Promise 13", "Violation k of the latest run is waived in later runs: whether it was not by then");
        RuleDeck deck = twoPlaces();
        check.due("flat", deck.run(0, 0, true), 4);
        check.due("waive", deck.waive(1), true);
        check.due("it was by then", deck.waive(1), false);
        check.due("so was the same one of another place", deck.waive(3), false);
        check.due("another one was not", deck.waive(0), true);
        check.due("two are waived", deck.count(3), 2);
        check.due("the latest run has all four", deck.count(2), 4);
        check.due("as they were", Check.told(deck, 1), "14 0 18 2 1 -1 8 @1");
        check.due("a later run has none", deck.run(0, 0, true), 0);
        check.dueNoSuch("no violation", () -> deck.waive(0));
        check.due("another rule has its own", deck.run(2, 0, false), 1);
        check.due("it was not", deck.waive(0), true);
        check.due("three are waived", deck.count(3), 3);
        check.due("a later run by cells has none", deck.run(2, 0, false), 0);
        RuleDeck whole = Check.deck(1, 2, "a=density 0<101;b=count 0<9;");
        Check.box(whole, 1, 0, 0, 0, 2, 2);
        whole.place(0, 1, 0, 0, 0);
        whole.run(0, 0, true);
        check.due("a cell's density", whole.waive(0), true);
        check.due("none", whole.run(0, 0, false), 0);
        check.due("another cell's", whole.run(0, 1, false), 1);
        check.due("its count", whole.run(1, 0, false), 1);
    }

    private static void waiveForty(Check check) {
        check.by("Promise 13", "IllegalStateException: it was not, and 40 are");
        RuleDeck deck = Check.deck(1, 2, "a=area 0<9;");
        for (int i = 0; i < 41; i++) {
            Check.box(deck, 1, 0, i, 0, i + 1, 1);
        }
        deck.place(0, 1, 0, 0, 0);
        deck.place(0, 1, 0, 5, 0);
        check.due("each twice", deck.run(0, 0, true), 82);
        for (int k = 0; k < 40; k++) {
            check.due("waive", deck.waive(2 * k), true);
        }
        check.due("40 are", deck.count(3), 40);
        check.dueFull("it was not", () -> deck.waive(80));
        check.due("it was", deck.waive(79), false);
        check.due("40 are", deck.count(3), 40);
        check.due("the last one is told still", Check.run(deck, 0, 0, true), "40 0 41 1 40 -1 1 @1, 40 5 41 6 40 -1 1 @1");
        check.dueFull("it was not", () -> deck.waive(0));
        check.by("Promise 13", "IndexOutOfBoundsException; IllegalStateException");
        check.dueNoSuch("no such violation comes first", () -> deck.waive(2));
        check.dueNoSuch("no such violation", () -> deck.waive(-1));
        check.due("a new text", Check.read(deck, "a=area 0<9;"), 1);
        check.due("each twice again", deck.run(0, 0, true), 82);
        check.due("there is room again", deck.waive(80), true);
    }

    private static void changed(Check check) {
        check.by("Promise 14", "How many violations of the latest run have a point in common with a box (their edges, too)");
        RuleDeck deck = Check.deck(1, 1, "a=area 0<99;b=edge 0<3;");
        Check.box(deck, 0, 0, 0, 0, 4, 6);
        Check.box(deck, 0, 0, 10, 10, 12, 12);
        deck.run(0, 0, true);
        check.due("all", deck.changed(Long.MIN_VALUE, Long.MIN_VALUE, Long.MAX_VALUE, Long.MAX_VALUE), 2);
        check.due("inside", deck.changed(2, 2, 2, 2), 1);
        check.due("around", deck.changed(-1, -1, 5, 7), 1);
        check.due("between", deck.changed(5, 7, 9, 9), 0);
        check.due("at both corners", deck.changed(4, 6, 10, 10), 2);
        check.due("at a corner alone", deck.changed(4, 6, 9, 9), 1);
        check.due("at the left", deck.changed(-5, 3, 0, 3), 1);
        check.due("beside the left", deck.changed(-5, 3, -1, 3), 0);
        check.due("at the right", deck.changed(4, 3, 9, 3), 1);
        check.due("beside the right", deck.changed(5, 3, 9, 3), 0);
        check.due("at the lower edge", deck.changed(1, -9, 2, 0), 1);
        check.due("below", deck.changed(1, -9, 2, -1), 0);
        check.due("at the upper edge", deck.changed(1, 6, 2, 9), 1);
        check.due("above", deck.changed(1, 7, 2, 9), 0);
        check.due("far out", deck.changed(1L << 32, 0, (1L << 32) + 9, 9), 0);
        deck.waive(0);
        check.due("what is waived later was told", deck.changed(2, 2, 2, 2), 1);
        check.due("lines", deck.run(1, 0, true), 4);
        check.due("a point of a line", deck.changed(11, 10, 11, 10), 1);
        check.due("a corner of two", deck.changed(12, 12, 12, 12), 2);
        check.due("inside of four", deck.changed(11, 11, 11, 11), 0);
    }

    private static void changedRefused(Check check) {
        check.by("Promise 14", "IllegalStateException: nothing was run since read() (or ever), or the latest run was not flat");
        RuleDeck never = new RuleDeck(1);
        check.dueFull("ever", () -> never.changed(0, 0, 1, 1));
        RuleDeck deck = Check.deck(1, 1, "a=area 0<9;b=area 0<1;");
        Check.box(deck, 0, 0, 0, 0, 2, 2);
        check.dueFull("nothing was run", () -> deck.changed(0, 0, 1, 1));
        deck.run(0, 0, true);
        check.due("flat", deck.changed(0, 0, 1, 1), 1);
        deck.run(0, 0, false);
        check.dueFull("not flat", () -> deck.changed(0, 0, 1, 1));
        check.due("flat again, with nothing told", deck.run(1, 0, true), 0);
        check.due("nothing", deck.changed(0, 0, 1, 1), 0);
        check.due("by cells, with nothing told", deck.run(1, 0, false), 0);
        check.dueFull("not flat", () -> deck.changed(0, 0, 1, 1));
        deck.run(0, 0, true);
        check.due("same is no run", deck.same(1, 0), true);
        check.due("flat", deck.changed(0, 0, 1, 1), 1);
        check.due("a wrong text", deck.read(), -1);
        check.due("leaves the run", deck.changed(0, 0, 1, 1), 1);
        check.due("a right one", Check.read(deck, "a=area 0<9;"), 1);
        check.dueFull("does not", () -> deck.changed(0, 0, 1, 1));
        check.by("Promise 14", "IllegalArgumentException: x0 is above x1, or y0 above y1");
        check.dueFull("that comes behind the state", () -> deck.changed(1, 0, 0, 0));
        deck.run(0, 0, true);
        check.dueOutOfRange("x", () -> deck.changed(1, 0, 0, 0));
        check.dueOutOfRange("y", () -> deck.changed(0, 1, 0, 0));
        check.dueOutOfRange("x far out", () -> deck.changed(Long.MAX_VALUE, 0, Long.MIN_VALUE, 0));
        check.dueOutOfRange("y far out", () -> deck.changed(0, Long.MAX_VALUE, 0, Long.MIN_VALUE));
        check.due("a point", deck.changed(1, 1, 1, 1), 1);
        check.due("a line", deck.changed(1, 0, 1, 9), 1);
    }

    private static void sameAsFlat(Check check) {
        check.by("Promise 15", "Whether what is told by cells, laid out at all places where these cells are in a cell, is what is told flat");
        String[] texts = {"a=width 0<9;b=notch 0<9;c=area 0<99;d=edge 0<9;e=corners 0<9;f=density 0<101;",
            "a=space 0 0<9;b=corner 0 0<9;c=enclose 0 0<9;d=overlap 0 0<9;e=count 0<99;f=area 0<1;"};
        for (int turn = 0; turn < 8; turn++) {
            for (String text : texts) {
                RuleDeck deck = Check.deck(1, 3, text);
                Check.polygon(deck, 2, 0, 0, 0, 9, 0, 9, 6, 7, 6, 7, 2, 2, 2, 2, 6, 0, 6);
                Check.box(deck, 2, 0, 4, 4, 5, 12);
                deck.place(1, 2, 3, 0, turn);
                deck.place(1, 2, 14, 5, 7 - turn);
                deck.place(0, 1, 0, 3, (turn + 3) % 8);
                deck.place(0, 2, 6, 6, (turn + 6) % 8);
                for (int rule = 0; rule < 6; rule++) {
                    check.due("rule " + rule + " of " + text, deck.same(rule, 0), true);
                }
            }
        }
        check.by("Promise 15", "each box with first, second and measure as often as one likes");
        RuleDeck alike = Check.deck(1, 2, "a=space 0 0<3;");
        Check.box(alike, 1, 0, 0, 0, 2, 2);
        Check.box(alike, 0, 0, 4, 0, 6, 2);
        alike.place(0, 1, 0, 0, 0);
        alike.place(0, 1, 0, 0, 0);
        check.due("once by cells, twice flat", alike.run(0, 0, true) - alike.run(0, 0, false), 1);
        check.due("it is the same", alike.same(0, 0), true);
    }

    private static void sameNow(Check check) {
        check.by("Promise 15", "(both now; what the latest run() told stays");
        for (int flat = 0; flat < 2; flat++) {
            RuleDeck deck = twoPlaces();
            check.due("before any run", deck.same(0, 0), true);
            check.due("nothing was run", deck.count(2), 0);
            deck.run(0, 0, flat == 1);
            String before = Check.state(deck, 2);
            check.due("another rule", deck.same(1, 0), true);
            check.due("another cell", deck.same(2, 1), true);
            check.due("all stays", Check.state(deck, 2), before);
            deck.waive(0);
            Check.box(deck, 1, 0, 0, 4, 1, 5);
            check.due("with what is waived and new by now", deck.same(0, 0), true);
            check.due("the run stays", deck.count(2), flat == 1 ? 4 : 2);
            check.due("what is waived is of the run", deck.waive(1), true);
            check.due("so a later run tells the new one alone", Check.run(deck, 0, 0, false), "0 4 1 5 2 -1 1 @1");
        }
    }

    private static void sameRefused(Check check) {
        check.by("Promise 15", "IndexOutOfBoundsException; UnsupportedOperationException");
        RuleDeck deck = twoPlaces();
        check.dueNoSuch("rule 3", () -> deck.same(3, 0));
        check.dueNoSuch("rule -1", () -> deck.same(-1, 0));
        check.dueNoSuch("cell 2", () -> deck.same(0, 2));
        check.dueNoSuch("cell -1", () -> deck.same(0, -1));
        for (int i = 0; i < 30; i++) {
            deck.place(0, 1, 0, 0, 0);
        }
        for (int i = 0; i < 36; i++) {
            Check.box(deck, 0, 0, 50 * i, 50, 50 * i + 9, 59);
        }
        check.due("100 occurrences", deck.same(2, 0), true);
        Check.box(deck, 0, 0, 0, 70, 9, 79);
        check.dueTooMany("101", () -> deck.same(2, 0));
        check.dueNoSuch("no rule comes first", () -> deck.same(3, 0));
    }

    private static void count(Check check) {
        check.by("Promise 16", "what = 0 rules, 1 kinds that rules have now");
        RuleDeck deck = Check.deck(1, 1);
        Check.box(deck, 0, 0, 0, 0, 2, 2);
        check.due("none yet", deck.count(0) + deck.count(1), 0);
        check.due("read", Check.read(deck, ALL_KINDS), 11);
        check.due("rules", deck.count(0), 11);
        check.due("kinds", deck.count(1), 11);
        check.due("read", Check.read(deck, "a=area 0<9;b=edge 0<3;c=area 0<2;d=edge 0<1;e=area 0<1;"), 5);
        check.due("rules", deck.count(0), 5);
        check.due("kinds", deck.count(1), 2);
        check.by("Promise 16", "2 violations of the latest run, 3 waived ones");
        check.due("nothing was run", deck.count(2), 0);
        deck.run(1, 0, true);
        check.due("violations", deck.count(2), 4);
        check.due("none is waived", deck.count(3), 0);
        deck.waive(2);
        deck.waive(2);
        deck.waive(3);
        check.due("waived ones", deck.count(3), 2);
        deck.run(1, 0, false);
        check.due("violations", deck.count(2), 2);
        check.due("waived ones", deck.count(3), 2);
        check.by("Promise 16", "4 characters on the tape");
        check.due("none", deck.count(4), 0);
        deck.unit('a');
        deck.units(Check.four(0, ' ', 0, '='));
        deck.unit(0);
        check.due("three", deck.count(4), 3);
        check.due("rules as before", deck.count(0), 5);
        deck.read();
        check.due("none", deck.count(4), 0);
        check.by("Promise 16", "IndexOutOfBoundsException");
        for (int wrong : new int[] {-1, 5, Integer.MIN_VALUE, Integer.MAX_VALUE}) {
            check.dueNoSuch("what " + wrong, () -> deck.count(wrong));
        }
    }

    private static void lastOf512Calls(Check check) {
        check.by("What it is", "An object is used for at most 512 calls after it has been made");
        RuleDeck deck = new RuleDeck(1);
        for (int i = 0; i < 511; i++) {
            deck.unit(' ');
        }
        check.due("call 512", deck.count(4), 511);
    }
}
