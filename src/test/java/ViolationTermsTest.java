/** Terms, 3: a test for each sentence that bounds what the kinds of rules find, and what they measure. */
public final class ViolationTermsTest {
    private static final String TERMS = "Terms 3";
    private static final String[] KINDS = {"width 0", "notch 0", "area 0", "edge 0", "corners 0", "density 0", "count 0",
        "space 0 0", "corner 0 0", "enclose 0 0", "overlap 0 0"};

    public static void main(String[] args) {
        Check check = new Check();
        numbers(check);
        oppositeSides(check);
        oppositeInTheLowestCell(check);
        overEachOther(check);
        gaps(check);
        widths(check);
        notches(check);
        spaces(check);
        spacesByVoltage(check);
        spacesByEnds(check);
        outerCorners(check);
        cornersAslant(check);
        cornersBySquares(check);
        cornersByVoltage(check);
        enclosuresOfLayers(check);
        enclosuresOfBoxes(check);
        enclosuresByDistance(check);
        overlapsOfBoxes(check);
        overlapsByDistance(check);
        onePolygonAlone(check);
        densities(check);
        densitiesOfTheAskedCell(check);
        counts(check);
        firstAndSecond(check);
        check.end();
    }

    private static RuleDeck deck() {
        return Check.deck(2, 1);
    }

    /** Two boxes on layer 0. */
    private static RuleDeck pair(long[] one, long[] other) {
        return pair(one, other, 0);
    }

    /** A box on layer 0 and another one on any. */
    private static RuleDeck pair(long[] one, long[] other, int layer) {
        RuleDeck deck = deck();
        Check.box(deck, 0, 0, one[0], one[1], one[2], one[3]);
        Check.box(deck, 0, layer, other[0], other[1], other[2], other[3]);
        return deck;
    }

    private static long[] box(long x0, long y0, long x1, long y1) {
        return new long[] {x0, y0, x1, y1};
    }

    private static void numbers(Check check) {
        check.by(TERMS, "N is a rule's number");
        RuleDeck deck = deck();
        Check.polygon(deck, 0, 0, 0, 0, 9, 0, 9, 6, 7, 6, 7, 2, 2, 2, 2, 6, 0, 6);
        Check.box(deck, 0, 0, 3, 4, 8, 9);
        Check.box(deck, 0, 0, 20, 20, 21, 21);
        for (String kind : KINDS) {
            check.dueTold(deck, kind + "<0", "");
            Check.read(deck, "r=" + kind + "<999999999;");
            check.due(kind + " below the greatest number", deck.run(0, 0, true) > 0, true);
        }
    }

    private static void oppositeSides(Check check) {
        check.by(TERMS, "Two sides are OPPOSITE, a and b, if a faces right and b, farther to the right, left");
        check.dueTold(pair(box(0, 0, 2, 2), box(3, 0, 5, 2)), "space 0 0<99", "2 0 3 2 0 1 1 @0");
        check.dueTold(pair(box(3, 0, 5, 2), box(0, 0, 2, 2)), "space 0 0<99", "2 0 3 2 1 0 1 @0");
        check.dueTold(pair(box(0, 0, 2, 2), box(2, 0, 5, 2)), "space 0 0<99", "");
        check.dueTold(pair(box(0, 0, 2, 2), box(1, 0, 5, 2)), "space 0 0<99", "");
        check.by(TERMS, "or a faces up and b, above it, down");
        check.dueTold(pair(box(0, 0, 2, 2), box(0, 3, 2, 5)), "space 0 0<99", "0 2 2 3 0 1 1 @0");
        check.dueTold(pair(box(0, 3, 2, 5), box(0, 0, 2, 2)), "space 0 0<99", "0 2 2 3 1 0 1 @0");
        check.dueTold(pair(box(0, 0, 2, 2), box(0, 2, 2, 5)), "space 0 0<99", "");
        check.dueTold(pair(box(0, 0, 2, 2), box(0, 1, 2, 5)), "space 0 0<99", "");
    }

    /** However the lowest cell is turned, first is what lies to the left or below in it. */
    private static void oppositeInTheLowestCell(Check check) {
        check.by(TERMS, "(in the lowest cell's x and y)");
        for (int turn = 0; turn < 8; turn++) {
            RuleDeck deck = Check.deck(1, 2, "a=space 0 0<4;b=corner 0 0<3;c=overlap 0 0<2;d=enclose 0 0<1;");
            Check.box(deck, 1, 0, 0, 0, 2, 2);
            Check.box(deck, 1, 0, 5, 0, 7, 2);
            Check.box(deck, 1, 0, 9, 4, 11, 6);
            Check.box(deck, 1, 0, 10, 5, 13, 6);
            deck.place(0, 1, 0, 0, turn);
            dueFirsts(check, deck, 0, "0 1 3");
            dueFirsts(check, deck, 1, "1 2 8");
            dueFirsts(check, deck, 2, "2 3 1, 2 3 1");
            dueFirsts(check, deck, 3, "2 3 0, 3 2 0");
        }
        RuleDeck deck = Check.deck(1, 2, "a=space 0 0<4;");
        Check.box(deck, 1, 0, 0, 0, 2, 2);
        Check.box(deck, 1, 0, 5, 0, 7, 2);
        deck.place(0, 1, 0, 0, 2);
        check.due("turned about", Check.run(deck, 0, 0, true), "-5 -2 -2 0 0 1 3 @1");
        RuleDeck met = Check.deck(1, 3, "a=space 0 0<4;");
        Check.box(met, 1, 0, 0, 0, 2, 2);
        Check.box(met, 2, 0, 5, 0, 7, 2);
        met.place(0, 1, 0, 0, 2);
        met.place(0, 2, 0, 0, 2);
        check.due("met above: what lies to the left there", Check.run(met, 0, 0, true), "-5 -2 -2 0 1 0 3 @0");
    }

    private static void dueFirsts(Check check, RuleDeck deck, int rule, String want) {
        StringBuilder text = new StringBuilder();
        for (String told : Check.run(deck, rule, 0, true).split(", ")) {
            String[] parts = told.split(" ");
            text.append(text.length() == 0 ? "" : ", ").append(parts[4]).append(' ').append(parts[5]).append(' ').append(parts[6]);
        }
        check.due("first, second and measure", text.toString(), want);
    }

    private static void overEachOther(Check check) {
        check.by(TERMS, "OVER EACH OTHER if the parts of both, moved straight to one another, have RUN in common at least");
        RuleDeck three = pair(box(0, 0, 2, 6), box(4, 3, 6, 12));
        check.dueTold(three, "space 0 0<5 run 2", "2 3 4 6 0 1 2 @0");
        check.dueTold(three, "space 0 0<5 run 3", "2 3 4 6 0 1 2 @0");
        check.dueTold(three, "space 0 0<5 run 4", "");
        check.dueTold(three, "space 0 0<5 run 999999999", "");
        check.by(TERMS, "(1 without that condition, or with 0)");
        RuleDeck none = pair(box(0, 0, 2, 6), box(4, 6, 6, 12));
        RuleDeck one = pair(box(0, 0, 2, 6), box(4, 5, 6, 12));
        RuleDeck passed = pair(box(0, 0, 2, 6), box(4, 7, 6, 12));
        for (String condition : new String[] {"", " run 0", " run 1"}) {
            check.dueTold(passed, "space 0 0<5" + condition, "");
            check.dueTold(none, "space 0 0<5" + condition, "");
            check.dueTold(one, "space 0 0<5" + condition, "2 5 4 6 0 1 2 @0");
        }
        check.dueTold(one, "space 0 0<5 run 2", "");
        RuleDeck lying = pair(box(0, 0, 6, 2), box(6, 4, 12, 6));
        check.dueTold(lying, "space 0 0<5 run 0", "");
        RuleDeck lyingOne = pair(box(0, 0, 6, 2), box(5, 4, 12, 6));
        check.dueTold(lyingOne, "space 0 0<5 run 0", "5 2 6 4 0 1 2 @0");
    }

    private static void gaps(Check check) {
        check.by(TERMS, "THE GAP of two sides is the box between, as wide as what they have in common");
        check.dueTold(pair(box(0, 0, 2, 9), box(5, 3, 7, 6)), "space 0 0<4", "2 3 5 6 0 1 3 @0");
        check.dueTold(pair(box(0, 3, 2, 6), box(5, 0, 7, 9)), "space 0 0<4", "2 3 5 6 0 1 3 @0");
        check.dueTold(pair(box(0, 0, 9, 2), box(3, 5, 6, 7)), "space 0 0<4", "3 2 6 5 0 1 3 @0");
        check.dueTold(pair(box(3, 0, 6, 2), box(0, 5, 9, 7)), "space 0 0<4", "3 2 6 5 0 1 3 @0");
        check.dueTold(pair(box(0, -8, 2, 4), box(5, -3, 7, 9)), "space 0 0<4", "2 -3 5 4 0 1 3 @0");
    }

    private static void widths(Check check) {
        check.by(TERMS, "width: of one polygon on the layer, b faces right (or up) and a, to the left of it (below), left (down), "
                + "less than N apart, over each other: the gap; distance");
        RuleDeck deck = deck();
        Check.box(deck, 0, 0, 1, 2, 4, 10);
        check.dueTold(deck, "width 0<3", "");
        check.dueTold(deck, "width 0<4", "1 2 4 10 0 -1 3 @0");
        check.dueTold(deck, "width 0<8", "1 2 4 10 0 -1 3 @0");
        check.dueTold(deck, "width 0<9", "1 2 4 10 0 -1 3 @0, 1 2 4 10 0 -1 8 @0");
        check.dueTold(deck, "width 0<9 run 3", "1 2 4 10 0 -1 3 @0, 1 2 4 10 0 -1 8 @0");
        check.dueTold(deck, "width 0<9 run 4", "1 2 4 10 0 -1 3 @0");
        check.dueTold(deck, "width 0<9 run 8", "1 2 4 10 0 -1 3 @0");
        check.dueTold(deck, "width 0<9 run 9", "");
        check.dueTold(deck, "width 1<9", "");
        RuleDeck notched = deck();
        Check.polygon(notched, 0, 0, 0, 0, 9, 0, 9, 6, 7, 6, 7, 2, 2, 2, 2, 6, 0, 6);
        check.dueTold(notched, "width 0<3", "0 2 2 6 0 -1 2 @0, 2 0 7 2 0 -1 2 @0, 7 2 9 6 0 -1 2 @0");
        // Sides are paired whatever lies between them.
        check.dueTold(notched, "width 0<10 run 4", "0 0 9 6 0 -1 9 @0, 0 2 2 6 0 -1 2 @0, 2 0 7 2 0 -1 2 @0, 7 2 9 6 0 -1 2 @0");
        check.dueTold(pair(box(0, 0, 3, 9), box(1, 0, 2, 9)), "width 0<3", "1 0 2 9 1 -1 1 @0");
    }

    private static void notches(Check check) {
        check.by(TERMS, "notch: of one, a and b opposite, less than N apart, over each other: the gap; distance");
        RuleDeck deck = deck();
        Check.polygon(deck, 0, 1, 0, 0, 9, 0, 9, 6, 7, 6, 7, 2, 2, 2, 2, 4, 0, 4);
        check.dueTold(deck, "notch 1<5", "");
        check.dueTold(deck, "notch 1<6", "2 2 7 4 0 -1 5 @0");
        check.dueTold(deck, "notch 1<6 run 2", "2 2 7 4 0 -1 5 @0");
        check.dueTold(deck, "notch 1<6 run 3", "");
        check.dueTold(deck, "notch 0<6", "");
        RuleDeck lying = deck();
        Check.polygon(lying, 0, 0, 0, 0, 0, 9, 6, 9, 6, 7, 2, 7, 2, 2, 6, 2, 6, 0);
        check.dueTold(lying, "notch 0<5", "");
        check.dueTold(lying, "notch 0<6", "2 2 6 7 0 -1 5 @0");
        RuleDeck narrow = deck();
        Check.polygon(narrow, 0, 0, 0, 0, 3, 0, 3, 9, 2, 9, 2, 1, 1, 1, 1, 9, 0, 9);
        check.dueTold(narrow, "notch 0<1", "");
        check.dueTold(narrow, "notch 0<2", "1 1 2 9 0 -1 1 @0");
        // Parts of one polygon that pass each other have no run in common.
        RuleDeck stairs = deck();
        Check.polygon(stairs, 0, 0, 0, 0, 4, 0, 4, 2, 6, 2, 6, 4, 2, 4, 2, 2, 0, 2);
        check.dueTold(stairs, "notch 0<99", "");
        // Of two polygons it is a space.
        check.dueTold(pair(box(0, 0, 2, 2), box(3, 0, 5, 2)), "notch 0<99", "");
    }

    private static void spaces(Check check) {
        check.by(TERMS, "space: of two occurrences, one on one layer and the other one on the other, a of either of them");
        RuleDeck mixed = deck();
        Check.box(mixed, 0, 0, 0, 0, 2, 2);
        Check.box(mixed, 0, 0, 3, 0, 5, 2);
        Check.box(mixed, 0, 1, 6, 0, 8, 2);
        Check.box(mixed, 0, 1, 9, 0, 11, 2);
        Check.box(mixed, 0, 0, 12, 0, 14, 2);
        check.dueTold(mixed, "space 0 0<2", "2 0 3 2 0 1 1 @0");
        check.dueTold(mixed, "space 1 1<2", "8 0 9 2 2 3 1 @0");
        check.dueTold(mixed, "space 0 1<2", "5 0 6 2 1 2 1 @0, 11 0 12 2 3 4 1 @0");
        check.dueTold(mixed, "space 1 0<2", "5 0 6 2 1 2 1 @0, 11 0 12 2 3 4 1 @0");
        RuleDeck notched = deck();
        Check.polygon(notched, 0, 0, 0, 0, 3, 0, 3, 9, 2, 9, 2, 1, 1, 1, 1, 9, 0, 9);
        check.dueTold(notched, "space 0 0<99", "");
        check.by(TERMS, "(with one layer told twice each such pair of sides or corners once, enclose each way)");
        check.dueTold(pair(box(0, 0, 2, 2), box(3, 0, 5, 2)), "space 0 0<2", "2 0 3 2 0 1 1 @0");
        check.dueTold(pair(box(0, 0, 2, 2), box(3, 3, 5, 5)), "corner 0 0<2", "2 2 3 3 0 1 2 @0");
        check.dueTold(pair(box(0, 0, 4, 4), box(3, 0, 8, 4)), "overlap 0 0<2", "3 0 4 4 0 1 1 @0");
        check.dueTold(pair(box(0, 0, 4, 4), box(0, 1, 3, 3)), "enclose 0 0<1", "0 1 0 3 0 1 0 @0, 0 1 0 3 1 0 0 @0");
        check.by(TERMS, "opposite sides of each, less than N apart (and more than 0), over each other");
        RuleDeck three = pair(box(0, 0, 2, 4), box(5, 0, 7, 4));
        check.dueTold(three, "space 0 0<3", "");
        check.dueTold(three, "space 0 0<4", "2 0 5 4 0 1 3 @0");
        RuleDeck above = pair(box(0, 0, 4, 2), box(0, 5, 4, 7));
        check.dueTold(above, "space 0 0<3", "");
        check.dueTold(above, "space 0 0<4", "0 2 4 5 0 1 3 @0");
        check.dueTold(pair(box(0, 0, 2, 4), box(3, 0, 7, 4)), "space 0 0<1", "");
        check.dueTold(pair(box(0, 0, 2, 4), box(2, 0, 7, 4)), "space 0 0<9", "");
        RuleDeck hooked = deck();
        Check.polygon(hooked, 0, 0, 0, 0, 9, 0, 9, 9, 7, 9, 7, 2, 2, 2, 2, 9, 0, 9);
        Check.box(hooked, 0, 1, 4, 4, 5, 12);
        check.dueTold(hooked, "space 0 1<3", "2 4 4 9 0 1 2 @0, 4 2 5 4 0 1 2 @0, 5 4 7 9 1 0 2 @0");
    }

    private static void spacesByVoltage(Check check) {
        check.by(TERMS, "with volt: their voltages differ by that or more");
        RuleDeck deck = pair(box(0, 0, 2, 4), box(5, 0, 7, 4));
        String gap = "2 0 5 4 0 1 3 @0";
        check.dueTold(deck, "space 0 0<4 volt 0", gap);
        check.dueTold(deck, "space 0 0<4 volt 1", "");
        deck.voltage(0, -3);
        deck.voltage(1, 4);
        check.dueTold(deck, "space 0 0<4 volt 7", gap);
        check.dueTold(deck, "space 0 0<4 volt 8", "");
        deck.voltage(0, 11);
        check.dueTold(deck, "space 0 0<4 volt 7", gap);
        check.dueTold(deck, "space 0 0<4 volt 8", "");
        deck.voltage(0, 1000000);
        deck.voltage(1, -1000000);
        check.dueTold(deck, "space 0 0<4 volt 2000000", gap);
        check.dueTold(deck, "space 0 0<4 volt 2000001", "");
        check.dueTold(deck, "space 0 0<4", gap);
        check.dueTold(deck, "space 0 0<3 volt 1", "");
    }

    private static void spacesByEnds(Check check) {
        check.by(TERMS, "with end: one of both sides is shorter than that");
        String gap = "2 0 5 4 0 1 3 @0";
        for (int shorter = 0; shorter < 2; shorter++) {
            long[] left = box(0, 0, 2, shorter == 0 ? 4 : 9);
            long[] right = box(5, 0, 7, shorter == 0 ? 9 : 4);
            RuleDeck deck = pair(left, right);
            check.dueTold(deck, "space 0 0<4 end 0", "");
            check.dueTold(deck, "space 0 0<4 end 4", "");
            check.dueTold(deck, "space 0 0<4 end 5", gap);
            check.dueTold(deck, "space 0 0<4 end 9", gap);
            check.dueTold(deck, "space 0 0<4 end 10", gap);
            check.dueTold(deck, "space 0 0<4 end 5 run 4 volt 0", gap);
            check.dueTold(deck, "space 0 0<4 end 5 run 5 volt 0", "");
            check.dueTold(deck, "space 0 0<4 end 5 run 4 volt 1", "");
        }
        // The sides count, not what they have in common.
        RuleDeck passing = pair(box(0, 0, 2, 6), box(5, 5, 7, 11));
        check.dueTold(passing, "space 0 0<4 end 6", "");
        check.dueTold(passing, "space 0 0<4 end 7", "2 5 5 6 0 1 3 @0");
        // Wherever they lie.
        check.dueTold(pair(box(0, 20, 2, 24), box(5, 19, 7, 29)), "space 0 0<4 end 5", "2 20 5 24 0 1 3 @0");
        check.dueTold(pair(box(0, 19, 2, 29), box(5, 20, 7, 24)), "space 0 0<4 end 5", "2 20 5 24 0 1 3 @0");
        check.dueTold(pair(box(0, -24, 2, -20), box(5, -29, 7, -19)), "space 0 0<4 end 4", "");
        check.dueTold(pair(box(0, -29, 2, -19), box(5, -24, 7, -20)), "space 0 0<4 end 4", "");
    }

    private static void outerCorners(Check check) {
        check.by(TERMS, "an OUTER corner (of the four quarters around it the polygon has one)");
        // The inner corner of an L is none, though its sides face right and up.
        RuleDeck inner = deck();
        Check.polygon(inner, 0, 0, 0, 0, 9, 0, 9, 1, 1, 1, 1, 9, 0, 9);
        Check.box(inner, 0, 0, 3, 3, 5, 5);
        check.dueTold(inner, "corner 0 0<5", "");
        // Nor is that of the other one, to the right and up.
        RuleDeck otherInner = deck();
        Check.box(otherInner, 0, 0, 3, 3, 5, 5);
        Check.polygon(otherInner, 0, 0, 0, 9, 9, 9, 9, 0, 7, 0, 7, 7, 0, 7);
        check.dueTold(otherInner, "corner 0 0<5", "");
        RuleDeck outer = deck();
        Check.polygon(outer, 0, 0, 0, 0, 4, 0, 4, 2, 2, 2, 2, 4, 0, 4);
        Check.box(outer, 0, 0, 5, 5, 7, 7);
        check.dueTold(outer, "corner 0 0<9", "2 4 5 5 0 1 10 @0, 4 2 5 5 0 1 10 @0");
    }

    private static void cornersAslant(Check check) {
        check.by(TERMS, "of which the sides face right and up, and one of the other, farther to the right and up, "
                + "of which they face left and down");
        check.dueTold(pair(box(0, 0, 2, 2), box(3, 4, 5, 6)), "corner 0 0<9", "2 2 3 4 0 1 5 @0");
        check.dueTold(pair(box(3, 4, 5, 6), box(0, 0, 2, 2)), "corner 0 0<9", "2 2 3 4 1 0 5 @0");
        check.dueTold(pair(box(0, 0, 2, 2), box(2, 4, 5, 6)), "corner 0 0<9", "");
        check.dueTold(pair(box(0, 0, 2, 2), box(3, 2, 5, 6)), "corner 0 0<9", "");
        check.dueTold(pair(box(0, 0, 2, 2), box(2, 2, 5, 6)), "corner 0 0<9", "");
        check.dueTold(pair(box(0, 0, 2, 2), box(1, 1, 5, 6)), "corner 0 0<9", "");
        check.by(TERMS, "(or right and down, and left and up, to the right and down)");
        check.dueTold(pair(box(0, 0, 2, 2), box(3, -5, 5, -1)), "corner 0 0<9", "2 -1 3 0 0 1 2 @0");
        check.dueTold(pair(box(3, -5, 5, -2), box(0, 0, 2, 2)), "corner 0 0<9", "2 -2 3 0 1 0 5 @0");
        check.dueTold(pair(box(0, 0, 2, 2), box(2, -5, 5, -1)), "corner 0 0<9", "");
        check.dueTold(pair(box(0, 0, 2, 2), box(3, -5, 5, 0)), "corner 0 0<9", "");
        check.dueTold(pair(box(0, 0, 2, 2), box(2, -5, 5, 0)), "corner 0 0<9", "");
        check.dueTold(pair(box(0, 0, 2, 2), box(1, -5, 5, 1)), "corner 0 0<9", "");
        check.by(TERMS, "corner: of two such");
        RuleDeck layers = pair(box(0, 0, 2, 2), box(3, 3, 5, 5), 1);
        check.dueTold(layers, "corner 0 1<9", "2 2 3 3 0 1 2 @0");
        check.dueTold(layers, "corner 1 0<9", "2 2 3 3 0 1 2 @0");
        check.dueTold(layers, "corner 0 0<9", "");
        check.dueTold(layers, "corner 1 1<9", "");
    }

    private static void cornersBySquares(Check check) {
        check.by(TERMS, "with the sum of the squares of both distances below N times N");
        RuleDeck five = pair(box(-2, -2, 0, 0), box(3, 4, 5, 6));
        check.dueTold(five, "corner 0 0<5", "");
        check.dueTold(five, "corner 0 0<6", "0 0 3 4 0 1 25 @0");
        RuleDeck one = pair(box(-2, -2, 0, 0), box(1, 1, 5, 6));
        check.dueTold(one, "corner 0 0<1", "");
        check.dueTold(one, "corner 0 0<2", "0 0 1 1 0 1 2 @0");
        RuleDeck far = pair(box(-10000, -10000, -9999, -9999), box(9999, 9999, 10000, 10000));
        check.dueTold(far, "corner 0 0<28281", "");
        check.dueTold(far, "corner 0 0<28282", "-9999 -9999 9999 9999 0 1 799840008 @0");
        // Above what 32 bits hold: N times N, and the sum.
        check.dueTold(far, "corner 0 0<65536", "-9999 -9999 9999 9999 0 1 799840008 @0");
        check.dueTold(far, "corner 0 0<999999999", "-9999 -9999 9999 9999 0 1 799840008 @0");
        RuleDeck deep = Check.deck(1, 4, "a=corner 0 0<999999999;");
        Check.box(deep, 3, 0, 0, 0, 1, 1);
        deep.place(2, 3, 10000, 10000, 0);
        deep.place(1, 2, 10000, 10000, 0);
        deep.place(0, 1, 10000, 10000, 0);
        deep.place(0, 1, -10000, -10000, 2);
        check.due("60000 apart each way", Check.run(deep, 0, 0, true), "-30000 -30000 30000 30000 0 0 7200000000 @0");
    }

    private static void cornersByVoltage(Check check) {
        check.by(TERMS, "volt likewise: the box between; that sum");
        RuleDeck deck = pair(box(-2, -2, 0, 0), box(3, 4, 5, 6));
        check.dueTold(deck, "corner 0 0<6 volt 0", "0 0 3 4 0 1 25 @0");
        check.dueTold(deck, "corner 0 0<6 volt 1", "");
        deck.voltage(0, 5);
        check.dueTold(deck, "corner 0 0<6 volt 5", "0 0 3 4 0 1 25 @0");
        check.dueTold(deck, "corner 0 0<6 volt 6", "");
        deck.voltage(1, 10);
        check.dueTold(deck, "corner 0 0<6 volt 5", "0 0 3 4 0 1 25 @0");
        check.dueTold(deck, "corner 0 0<6 volt 6", "");
    }

    private static void enclosuresOfLayers(Check check) {
        check.by(TERMS, "enclose: of an occurrence on the first layer and another one on the second one");
        RuleDeck deck = pair(box(0, 0, 8, 8), box(-1, -2, 11, 12), 1);
        check.dueTold(deck, "enclose 0 1<2", "-1 0 0 8 0 1 1 @0");
        check.dueTold(deck, "enclose 1 0<2", "");
        check.dueTold(deck, "enclose 0 0<99", "");
        check.dueTold(deck, "enclose 1 1<99", "");
        RuleDeck alone = deck();
        Check.box(alone, 0, 0, 0, 0, 4, 4);
        check.dueTold(alone, "enclose 0 0<99", "");
        RuleDeck mixed = deck();
        Check.box(mixed, 0, 0, 0, 0, 8, 8);
        Check.box(mixed, 0, 0, -1, -2, 11, 12);
        Check.box(mixed, 0, 1, -1, -1, 20, 20);
        Check.box(mixed, 0, 1, -2, -9, 30, 30);
        check.dueTold(mixed, "enclose 0 1<2", "-2 -2 -1 12 1 3 1 @0, -1 -1 -1 12 1 2 0 @0, -1 0 0 8 0 2 1 @0, 0 -1 8 0 0 2 1 @0");
        check.dueTold(mixed, "enclose 1 0<2", "-1 -2 11 -1 2 1 1 @0, -1 -1 -1 12 2 1 0 @0");
        RuleDeck alike = pair(box(0, 0, 4, 4), box(0, 0, 4, 4));
        check.dueTold(alike, "enclose 0 0<1", "0 0 0 4 0 1 0 @0, 0 0 0 4 1 0 0 @0, 0 0 4 0 0 1 0 @0, 0 0 4 0 1 0 0 @0, "
                + "0 4 4 4 0 1 0 @0, 0 4 4 4 1 0 0 @0, 4 0 4 4 0 1 0 @0, 4 0 4 4 1 0 0 @0");
    }

    private static void enclosuresOfBoxes(Check check) {
        check.by(TERMS, "of which the boxes have more than edges in common, a side of each that face the same way");
        check.dueTold(pair(box(0, 0, 4, 4), box(4, 0, 9, 4), 1), "enclose 0 1<9", "");
        check.dueTold(pair(box(0, 0, 4, 4), box(5, 0, 9, 4), 1), "enclose 0 1<9", "");
        check.dueTold(pair(box(0, 0, 4, 4), box(3, 1, 9, 3), 1), "enclose 0 1<9", "4 1 9 3 0 1 5 @0");
        check.dueTold(pair(box(0, 0, 4, 4), box(0, 4, 4, 9), 1), "enclose 0 1<9", "");
        check.dueTold(pair(box(0, 0, 4, 4), box(1, 3, 3, 9), 1), "enclose 0 1<9", "1 4 3 9 0 1 5 @0");
        check.dueTold(pair(box(0, 0, 4, 4), box(-5, 1, 0, 3), 1), "enclose 0 1<9", "");
        check.dueTold(pair(box(0, 0, 4, 4), box(-5, 1, 1, 3), 1), "enclose 0 1<9", "-5 1 0 3 0 1 5 @0");
        check.dueTold(pair(box(0, 0, 4, 4), box(1, -5, 3, 0), 1), "enclose 0 1<9", "");
        check.dueTold(pair(box(0, 0, 4, 4), box(1, -5, 3, 1), 1), "enclose 0 1<9", "1 -5 3 0 0 1 5 @0");
        // The boxes count: the polygons may be apart.
        RuleDeck hooked = deck();
        Check.box(hooked, 0, 0, 4, 4, 6, 6);
        Check.polygon(hooked, 0, 1, 0, 0, 9, 0, 9, 1, 1, 1, 1, 9, 0, 9);
        check.dueTold(hooked, "enclose 0 1<5", "0 4 4 6 0 1 4 @0, 4 0 6 4 0 1 4 @0");
    }

    private static void enclosuresByDistance(Check check) {
        check.by(TERMS, "that of the second one as far outside as the other one or farther, by less than N, over each other: "
                + "the gap; that distance");
        RuleDeck deck = pair(box(0, 0, 8, 8), box(-1, 0, 10, 7), 1);
        check.dueTold(deck, "enclose 0 1<0", "");
        check.dueTold(deck, "enclose 0 1<1", "0 0 8 0 0 1 0 @0");
        check.dueTold(deck, "enclose 0 1<2", "-1 0 0 7 0 1 1 @0, 0 0 8 0 0 1 0 @0");
        check.dueTold(deck, "enclose 0 1<3", "-1 0 0 7 0 1 1 @0, 0 0 8 0 0 1 0 @0, 8 0 10 7 0 1 2 @0");
        check.dueTold(deck, "enclose 1 0<2", "0 0 8 0 1 0 0 @0, 0 7 8 8 1 0 1 @0");
        check.dueTold(deck, "enclose 0 1<3 run 7", "-1 0 0 7 0 1 1 @0, 0 0 8 0 0 1 0 @0, 8 0 10 7 0 1 2 @0");
        check.dueTold(deck, "enclose 0 1<3 run 8", "0 0 8 0 0 1 0 @0");
        check.dueTold(deck, "enclose 0 1<3 run 9", "");
        RuleDeck level = pair(box(0, 0, 4, 4), box(0, -9, 4, 9), 1);
        check.dueTold(level, "enclose 0 1<1", "0 0 0 4 0 1 0 @0, 4 0 4 4 0 1 0 @0");
        RuleDeck inside = pair(box(0, 0, 8, 8), box(1, 1, 7, 7), 1);
        check.dueTold(inside, "enclose 0 1<99", "");
        check.dueTold(inside, "enclose 1 0<2", "0 1 1 7 1 0 1 @0, 1 0 7 1 1 0 1 @0, 1 7 7 8 1 0 1 @0, 7 1 8 7 1 0 1 @0");
    }

    private static void overlapsOfBoxes(Check check) {
        check.by(TERMS, "overlap: of two such (of one layer and the other)");
        RuleDeck deck = pair(box(0, 0, 6, 8), box(4, -2, 10, 5), 1);
        check.dueTold(deck, "overlap 0 1<3", "4 0 6 5 0 1 2 @0");
        check.dueTold(deck, "overlap 1 0<3", "4 0 6 5 0 1 2 @0");
        check.dueTold(deck, "overlap 0 0<3", "");
        check.dueTold(deck, "overlap 1 1<3", "");
        check.dueTold(pair(box(0, 0, 4, 4), box(-9, 0, -5, 4), 1), "overlap 0 1<99", "");
        check.dueTold(pair(box(0, 0, 4, 4), box(-4, 0, 0, 4), 1), "overlap 0 1<99", "");
        check.dueTold(pair(box(0, 0, 4, 4), box(0, -4, 4, 0), 1), "overlap 0 1<99", "");
        check.dueTold(pair(box(0, 0, 4, 4), box(-4, 0, 1, 4), 1), "overlap 0 1<2", "0 0 1 4 1 0 1 @0");
        check.dueTold(pair(box(0, 0, 4, 4), box(0, -4, 4, 1), 1), "overlap 0 1<2", "0 0 4 1 1 0 1 @0");
        RuleDeck alone = deck();
        Check.box(alone, 0, 0, 0, 0, 4, 4);
        check.dueTold(alone, "overlap 0 0<99", "");
    }

    private static void overlapsByDistance(Check check) {
        check.by(TERMS, "a facing right (up), b of the other one, facing left (down), to the left of it (below), by less than N, "
                + "over each other: the gap; distance");
        RuleDeck deck = pair(box(0, 0, 6, 8), box(4, -2, 10, 5), 1);
        check.dueTold(deck, "overlap 0 1<2", "");
        check.dueTold(deck, "overlap 0 1<3", "4 0 6 5 0 1 2 @0");
        check.dueTold(deck, "overlap 0 1<5", "4 0 6 5 0 1 2 @0");
        check.dueTold(deck, "overlap 0 1<6", "4 0 6 5 0 1 2 @0, 4 0 6 5 1 0 5 @0");
        check.dueTold(deck, "overlap 0 1<6 run 2", "4 0 6 5 0 1 2 @0, 4 0 6 5 1 0 5 @0");
        check.dueTold(deck, "overlap 0 1<6 run 3", "4 0 6 5 0 1 2 @0");
        check.dueTold(deck, "overlap 0 1<6 run 6", "");
        // A side on the other one is not to the left of it, though the boxes overlap.
        RuleDeck touching = deck();
        Check.polygon(touching, 0, 0, 0, 0, 4, 0, 4, 4, 8, 4, 8, 8, 0, 8);
        Check.box(touching, 0, 1, 4, 0, 8, 2);
        check.dueTold(touching, "overlap 0 1<8", "");
        RuleDeck level = deck();
        Check.polygon(level, 0, 0, 0, 0, 8, 0, 8, 8, 4, 8, 4, 4, 0, 4);
        Check.box(level, 0, 1, 0, 4, 2, 8);
        check.dueTold(level, "overlap 0 1<8", "");
    }

    private static void onePolygonAlone(Check check) {
        RuleDeck deck = deck();
        Check.polygon(deck, 0, 0, 1, 1, 5, 1, 5, 3, 2, 3, 2, 6, 1, 6);
        Check.box(deck, 0, 1, 0, 0, 1, 1);
        check.by(TERMS, "area: a polygon of less than N squares: its box; the area");
        check.dueTold(deck, "area 0<11", "");
        check.dueTold(deck, "area 0<12", "1 1 5 6 0 -1 11 @0");
        check.dueTold(deck, "area 1<1", "");
        check.dueTold(deck, "area 1<2", "0 0 1 1 1 -1 1 @0");
        check.by(TERMS, "edge: a side shorter than N: its line as a box; the length");
        check.dueTold(deck, "edge 0<1", "");
        check.dueTold(deck, "edge 0<2", "1 6 2 6 0 -1 1 @0");
        check.dueTold(deck, "edge 0<3", "1 6 2 6 0 -1 1 @0, 5 1 5 3 0 -1 2 @0");
        check.dueTold(deck, "edge 1<2", "0 0 0 1 1 -1 1 @0, 0 0 1 0 1 -1 1 @0, 0 1 1 1 1 -1 1 @0, 1 0 1 1 1 -1 1 @0");
        check.by(TERMS, "corners: a polygon of fewer corners: its box; how many");
        check.dueTold(deck, "corners 0<6", "");
        check.dueTold(deck, "corners 0<7", "1 1 5 6 0 -1 6 @0");
        check.dueTold(deck, "corners 1<5", "0 0 1 1 1 -1 4 @0");
        check.dueTold(deck, "corners 1<4", "");
    }

    private static void densities(Check check) {
        check.by(TERMS, "the sum of the areas of all occurrences on the layer times 100, over the area of the box of all occurrences "
                + "on any layer, rounded down, if it is below N");
        RuleDeck deck = deck();
        Check.box(deck, 0, 0, 1, 1, 3, 2);
        check.dueTold(deck, "density 0<100", "");
        check.dueTold(deck, "density 0<101", "1 1 3 2 -1 -1 100 @0");
        check.dueTold(deck, "density 1<0", "");
        check.dueTold(deck, "density 1<1", "1 1 3 2 -1 -1 0 @0");
        Check.box(deck, 0, 1, 3, 2, 4, 4);
        check.dueTold(deck, "density 0<22", "");
        check.dueTold(deck, "density 0<23", "1 1 4 4 -1 -1 22 @0");
        for (int i = 0; i < 5; i++) {
            Check.box(deck, 0, 0, 1, 1, 4, 4);
        }
        check.dueTold(deck, "density 0<522", "");
        check.dueTold(deck, "density 0<523", "1 1 4 4 -1 -1 522 @0");
        RuleDeck almost = pair(box(0, 0, 99, 1), box(99, 0, 100, 1), 1);
        check.dueTold(almost, "density 0<100", "0 0 100 1 -1 -1 99 @0");
        check.dueTold(almost, "density 1<2", "0 0 100 1 -1 -1 1 @0");
        check.dueTold(almost, "density 1<1", "");
        RuleDeck aside = pair(box(10, -7, 14, -6), box(11, -6, 12, 3), 1);
        check.dueTold(aside, "density 0<11", "10 -7 14 3 -1 -1 10 @0");
        check.dueTold(aside, "density 1<23", "10 -7 14 3 -1 -1 22 @0");
        RuleDeck single = deck();
        Check.box(single, 0, 0, 1, 1, 2, 2);
        check.dueTold(single, "density 0<101", "1 1 2 2 -1 -1 100 @0");
        RuleDeck wide = deck();
        for (int i = 0; i < 60; i++) {
            Check.box(wide, 0, 0, -10000, -10000, 10000, 10000);
        }
        check.dueTold(wide, "density 0<6001", "-10000 -10000 10000 10000 -1 -1 6000 @0");
        check.by(TERMS, "(0 if there are none): that box (0, 0, 0, 0 if there are none); the number");
        RuleDeck none = deck();
        check.dueTold(none, "density 0<0", "");
        check.dueTold(none, "density 0<1", "0 0 0 0 -1 -1 0 @0");
        none.polygon(0, 0);
        check.dueTold(none, "density 0<1", "0 0 0 0 -1 -1 0 @0");
    }

    private static void densitiesOfTheAskedCell(Check check) {
        check.by(TERMS, "density: of the cell that is asked alone (by cells, too)");
        RuleDeck deck = Check.deck(2, 3, "a=density 0<101;b=count 0<9;c=density 1<1;");
        Check.box(deck, 1, 0, 0, 0, 2, 2);
        deck.place(0, 1, 10, 10, 0);
        deck.place(0, 1, 14, 10, 0);
        deck.place(0, 2, 0, 0, 0);
        check.due("flat", Check.run(deck, 0, 0, true), "10 10 16 12 -1 -1 66 @0");
        check.due("by cells", Check.run(deck, 0, 0, false), "10 10 16 12 -1 -1 66 @0");
        check.due("a layer without any", Check.run(deck, 2, 0, false), "10 10 16 12 -1 -1 0 @0");
        check.due("a cell without any", Check.run(deck, 0, 2, false), "0 0 0 0 -1 -1 0 @2");
        check.by(TERMS, "count: of the cell alone");
        check.due("flat", Check.run(deck, 1, 0, true), "10 10 16 12 -1 -1 2 @0");
        check.due("by cells", Check.run(deck, 1, 0, false), "10 10 16 12 -1 -1 2 @0");
        check.due("a cell without any", Check.run(deck, 1, 2, true), "0 0 0 0 -1 -1 0 @2");
    }

    private static void counts(Check check) {
        check.by(TERMS, "fewer occurrences on the layer than N: that box; how many");
        RuleDeck deck = deck();
        check.dueTold(deck, "count 0<0", "");
        check.dueTold(deck, "count 0<1", "0 0 0 0 -1 -1 0 @0");
        Check.box(deck, 0, 1, 5, 5, 6, 7);
        check.dueTold(deck, "count 0<1", "5 5 6 7 -1 -1 0 @0");
        check.dueTold(deck, "count 1<1", "");
        Check.box(deck, 0, 0, 1, 6, 2, 9);
        check.dueTold(deck, "count 1<1", "");
        check.dueTold(deck, "count 1<2", "1 5 6 9 -1 -1 1 @0");
    }

    private static void firstAndSecond(Check check) {
        check.by(TERMS, "FIRST is the polygon of a (with width, notch and others of one: it), SECOND that of b (NONE)");
        RuleDeck deck = deck();
        Check.box(deck, 0, 0, 90, 90, 99, 99);
        Check.polygon(deck, 0, 0, 0, 0, 3, 0, 3, 9, 2, 9, 2, 1, 1, 1, 1, 9, 0, 9);
        check.dueTold(deck, "width 0<2 run 4", "0 1 1 9 1 -1 1 @0, 2 1 3 9 1 -1 1 @0");
        check.dueTold(deck, "notch 0<2", "1 1 2 9 1 -1 1 @0");
        check.dueTold(deck, "area 0<20", "0 0 3 9 1 -1 19 @0");
        check.dueTold(deck, "corners 0<9 ", "0 0 3 9 1 -1 8 @0, 90 90 99 99 0 -1 4 @0");
        check.dueTold(pair(box(4, 0, 6, 2), box(0, 0, 2, 2)), "space 0 0<3", "2 0 4 2 1 0 2 @0");
        check.dueTold(pair(box(4, 4, 6, 6), box(0, 0, 2, 2)), "corner 0 0<3", "2 2 4 4 1 0 8 @0");
        check.dueTold(pair(box(1, 0, 6, 9), box(0, 0, 2, 9)), "overlap 0 0<2", "1 0 2 9 1 0 1 @0");
        check.by(TERMS, "with enclose that on the first layer and that on the second one");
        RuleDeck layers = pair(box(0, 0, 9, 9), box(1, 2, 7, 6), 1);
        check.dueTold(layers, "enclose 1 0<2", "0 2 1 6 1 0 1 @0");
        RuleDeck other = pair(box(1, 2, 7, 6), box(0, 0, 9, 9), 1);
        check.dueTold(other, "enclose 0 1<2", "0 2 1 6 0 1 1 @0");
        check.by(TERMS, "NONE for density and count");
        check.dueTold(layers, "density 0<101", "0 0 9 9 -1 -1 100 @0");
        check.dueTold(layers, "count 0<2", "0 0 9 9 -1 -1 1 @0");
    }
}
