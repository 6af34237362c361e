/** Promises 10 and 11: what each kind of rule finds in one cell, up to the edges that the document names. */
public final class KindsTest {
    public static void main(String[] args) {
        Check check = new Check();
        findsWidths(check);
        findsNotches(check);
        findsSpaces(check);
        findsSpacesByVoltageAndEnds(check);
        findsCorners(check);
        findsEnclosures(check);
        findsOverlaps(check);
        findsMeasuresOfOne(check);
        findsDensities(check);
        findsCounts(check);
        leavesOthersOut(check);
        check.end();
    }

    private static void due(Check check, RuleDeck deck, String rule, String want) {
        check.due("read " + rule, Check.read(deck, "r=" + rule + ";"), 1);
        check.due(rule + " flat", Check.run(deck, 0, 0, true), want);
        check.due(rule + " by cells", Check.run(deck, 0, 0, false), want);
        check.due(rule + " the same", deck.same(0, 0), true);
    }

    private static RuleDeck deck() {
        return Check.deck(2, 1, "a=count 0<1;");
    }

    private static void findsWidths(Check check) {
        RuleDeck deck = deck();
        Check.box(deck, 0, 0, 0, 0, 3, 8);
        due(check, deck, "width 0<3", "");
        due(check, deck, "width 0<4", "0 0 3 8 0 -1 3 @0");
        due(check, deck, "width 0<4 run 8", "0 0 3 8 0 -1 3 @0");
        due(check, deck, "width 0<4 run 9", "");
        due(check, deck, "width 0<9 run 0", "0 0 3 8 0 -1 3 @0, 0 0 3 8 0 -1 8 @0");
        due(check, deck, "width 1<9", "");
        due(check, deck, "width 0<0", "");
        RuleDeck gate = deck();
        Check.polygon(gate, 0, 0, 0, 0, 9, 0, 9, 6, 7, 6, 7, 2, 2, 2, 2, 6, 0, 6);
        due(check, gate, "width 0<3", "0 2 2 6 0 -1 2 @0, 2 0 7 2 0 -1 2 @0, 7 2 9 6 0 -1 2 @0");
        // Sides are paired whatever lies between.
        due(check, gate, "width 0<10 run 4", "0 0 9 6 0 -1 9 @0, 0 2 2 6 0 -1 2 @0, 2 0 7 2 0 -1 2 @0, 7 2 9 6 0 -1 2 @0");
    }

    private static void findsNotches(Check check) {
        RuleDeck deck = deck();
        Check.polygon(deck, 0, 1, 0, 0, 9, 0, 9, 6, 7, 6, 7, 2, 2, 2, 2, 4, 0, 4);
        due(check, deck, "notch 1<5", "");
        due(check, deck, "notch 1<6", "2 2 7 4 0 -1 5 @0");
        due(check, deck, "notch 1<6 run 2", "2 2 7 4 0 -1 5 @0");
        due(check, deck, "notch 1<6 run 3", "");
        due(check, deck, "notch 0<6", "");
        RuleDeck lying = deck();
        Check.polygon(lying, 0, 0, 0, 0, 0, 9, 6, 9, 6, 7, 2, 7, 2, 2, 6, 2, 6, 0);
        due(check, lying, "notch 0<6", "2 2 6 7 0 -1 5 @0");
        // Parts of one polygon that pass each other have no run in common.
        RuleDeck stairs = deck();
        Check.polygon(stairs, 0, 0, 0, 0, 4, 0, 4, 2, 6, 2, 6, 4, 2, 4, 2, 2, 0, 2);
        due(check, stairs, "notch 0<9", "");
    }

    private static void findsSpaces(Check check) {
        RuleDeck deck = deck();
        Check.box(deck, 0, 0, 5, 1, 8, 9);
        Check.box(deck, 0, 0, 0, 0, 2, 4);
        due(check, deck, "space 0 0<3", "");
        due(check, deck, "space 0 0<4", "2 1 5 4 1 0 3 @0");
        due(check, deck, "space 0 0<4 run 3", "2 1 5 4 1 0 3 @0");
        due(check, deck, "space 0 0<4 run 4", "");
        due(check, deck, "space 0 1<4", "");
        due(check, deck, "space 1 1<4", "");
        RuleDeck touching = deck();
        Check.box(touching, 0, 0, 0, 0, 4, 4);
        Check.box(touching, 0, 1, 4, 0, 8, 4);
        Check.box(touching, 0, 1, 0, 6, 4, 8);
        Check.box(touching, 0, 0, 4, 10, 6, 12);
        due(check, touching, "space 0 1<3", "0 4 4 6 0 2 2 @0");
        due(check, touching, "space 1 0<3", "0 4 4 6 0 2 2 @0");
        due(check, touching, "space 0 0<99", "");
        due(check, touching, "space 1 0<7", "0 4 4 6 0 2 2 @0, 4 4 6 10 1 3 6 @0");
        RuleDeck deep = deck();
        Check.box(deep, 0, 0, 0, 0, 9, 9);
        Check.polygon(deep, 0, 0, 3, 3, 12, 3, 12, 6, 3, 6);
        due(check, deep, "space 0 0<99", "");
        RuleDeck hooked = deck();
        Check.polygon(hooked, 0, 0, 0, 0, 9, 0, 9, 9, 7, 9, 7, 2, 2, 2, 2, 9, 0, 9);
        Check.box(hooked, 0, 1, 4, 4, 5, 12);
        due(check, hooked, "space 0 1<3", "2 4 4 9 0 1 2 @0, 4 2 5 4 0 1 2 @0, 5 4 7 9 1 0 2 @0");
    }

    private static void findsSpacesByVoltageAndEnds(Check check) {
        RuleDeck deck = deck();
        Check.box(deck, 0, 0, 0, 0, 2, 4);
        Check.box(deck, 0, 0, 5, 0, 7, 9);
        String gap = "2 0 5 4 0 1 3 @0";
        due(check, deck, "space 0 0<4 volt 0", gap);
        due(check, deck, "space 0 0<4 volt 1", "");
        deck.voltage(0, -3);
        deck.voltage(1, 4);
        due(check, deck, "space 0 0<4 volt 7", gap);
        due(check, deck, "space 0 0<4 volt 8", "");
        deck.voltage(0, 11);
        due(check, deck, "space 0 0<4 volt 7", gap);
        deck.voltage(0, 1000000);
        deck.voltage(1, -1000000);
        due(check, deck, "space 0 0<4 volt 2000000", gap);
        due(check, deck, "space 0 0<4 volt 2000001", "");
        due(check, deck, "space 0 0<4 end 4", "");
        due(check, deck, "space 0 0<4 end 5", gap);
        due(check, deck, "space 0 0<4 end 10", gap);
        due(check, deck, "space 0 0<4 end 0", "");
        due(check, deck, "space 0 0<4 end 5 run 4 volt 2000000", gap);
        due(check, deck, "space 0 0<4 end 5 run 5 volt 2000000", "");
    }

    private static void findsCorners(Check check) {
        RuleDeck deck = deck();
        Check.box(deck, 0, 0, 3, 4, 9, 9);
        Check.box(deck, 0, 0, -5, -5, 0, 0);
        due(check, deck, "corner 0 0<5", "");
        due(check, deck, "corner 0 0<6", "0 0 3 4 1 0 25 @0");
        deck.voltage(0, 5);
        due(check, deck, "corner 0 0<6 volt 5", "0 0 3 4 1 0 25 @0");
        due(check, deck, "corner 0 0<6 volt 6", "");
        due(check, deck, "corner 0 1<6", "");
        RuleDeck falling = deck();
        Check.box(falling, 0, 1, 0, 0, 2, 2);
        Check.box(falling, 0, 0, 3, -4, 5, -1);
        due(check, falling, "corner 0 1<2", "2 -1 3 0 0 1 2 @0");
        due(check, falling, "corner 1 0<2", "2 -1 3 0 0 1 2 @0");
        due(check, falling, "corner 0 1<1", "");
        RuleDeck straight = deck();
        Check.box(straight, 0, 0, 0, 0, 2, 2);
        Check.box(straight, 0, 0, 2, 4, 4, 6);
        Check.box(straight, 0, 0, 4, -6, 6, 0);
        due(check, straight, "corner 0 0<99", "");
        RuleDeck far = deck();
        Check.box(far, 0, 0, -10000, -10000, -9999, -9999);
        Check.box(far, 0, 0, 9999, 9999, 10000, 10000);
        due(check, far, "corner 0 0<999999999", "-9999 -9999 9999 9999 0 1 799840008 @0");
        // The inner corner of an L is none, though its sides face right and up.
        RuleDeck inner = deck();
        Check.polygon(inner, 0, 0, 0, 0, 9, 0, 9, 1, 1, 1, 1, 9, 0, 9);
        Check.box(inner, 0, 0, 3, 3, 5, 5);
        due(check, inner, "corner 0 0<5", "");
    }

    private static void findsEnclosures(Check check) {
        RuleDeck deck = deck();
        Check.box(deck, 0, 0, 0, 0, 8, 8);
        Check.box(deck, 0, 1, -1, 0, 10, 7);
        due(check, deck, "enclose 0 1<0", "");
        due(check, deck, "enclose 0 1<1", "0 0 8 0 0 1 0 @0");
        due(check, deck, "enclose 0 1<2", "-1 0 0 7 0 1 1 @0, 0 0 8 0 0 1 0 @0");
        due(check, deck, "enclose 0 1<3", "-1 0 0 7 0 1 1 @0, 0 0 8 0 0 1 0 @0, 8 0 10 7 0 1 2 @0");
        due(check, deck, "enclose 1 0<2", "0 0 8 0 1 0 0 @0, 0 7 8 8 1 0 1 @0");
        due(check, deck, "enclose 0 1<3 run 8", "0 0 8 0 0 1 0 @0");
        due(check, deck, "enclose 0 0<9", "");
        RuleDeck beside = deck();
        Check.box(beside, 0, 0, 0, 0, 4, 4);
        Check.box(beside, 0, 1, 4, 0, 8, 4);
        due(check, beside, "enclose 0 1<9", "");
        RuleDeck alike = deck();
        Check.box(alike, 0, 0, 0, 0, 4, 4);
        Check.box(alike, 0, 0, 1, 1, 3, 4);
        due(check, alike, "enclose 0 0<2",
                "0 1 1 4 1 0 1 @0, 1 0 3 1 1 0 1 @0, 1 4 3 4 0 1 0 @0, 1 4 3 4 1 0 0 @0, 3 1 4 4 1 0 1 @0");
    }

    private static void findsOverlaps(Check check) {
        RuleDeck deck = deck();
        Check.box(deck, 0, 0, 0, 0, 6, 8);
        Check.box(deck, 0, 1, 4, -2, 10, 5);
        due(check, deck, "overlap 0 1<2", "");
        due(check, deck, "overlap 0 1<3", "4 0 6 5 0 1 2 @0");
        due(check, deck, "overlap 1 0<3", "4 0 6 5 0 1 2 @0");
        due(check, deck, "overlap 0 1<6", "4 0 6 5 0 1 2 @0, 4 0 6 5 1 0 5 @0");
        due(check, deck, "overlap 0 1<6 run 3", "4 0 6 5 0 1 2 @0");
        due(check, deck, "overlap 0 0<6", "");
        RuleDeck apart = deck();
        Check.box(apart, 0, 0, 0, 0, 4, 4);
        Check.box(apart, 0, 1, 4, 0, 8, 4);
        Check.box(apart, 0, 1, -9, 0, -5, 4);
        due(check, apart, "overlap 0 1<99", "");
        RuleDeck twice = deck();
        Check.box(twice, 0, 0, 0, 0, 4, 4);
        Check.box(twice, 0, 0, 3, 0, 8, 4);
        due(check, twice, "overlap 0 0<2", "3 0 4 4 0 1 1 @0");
    }

    private static void findsMeasuresOfOne(Check check) {
        RuleDeck deck = deck();
        Check.polygon(deck, 0, 0, 0, 0, 4, 0, 4, 2, 1, 2, 1, 5, 0, 5);
        Check.box(deck, 0, 1, 0, 0, 1, 1);
        due(check, deck, "area 0<11", "");
        due(check, deck, "area 0<12", "0 0 4 5 0 -1 11 @0");
        due(check, deck, "corners 0<6", "");
        due(check, deck, "corners 0<7", "0 0 4 5 0 -1 6 @0");
        due(check, deck, "edge 0<1", "");
        due(check, deck, "edge 0<3", "0 5 1 5 0 -1 1 @0, 4 0 4 2 0 -1 2 @0");
        RuleDeck wide = deck();
        Check.box(wide, 0, 0, -10000, -10000, 10000, 10000);
        due(check, wide, "area 0<400000000", "");
        due(check, wide, "area 0<400000001", "-10000 -10000 10000 10000 0 -1 400000000 @0");
    }

    private static void findsDensities(Check check) {
        RuleDeck deck = deck();
        due(check, deck, "density 0<0", "");
        due(check, deck, "density 0<1", "0 0 0 0 -1 -1 0 @0");
        deck.polygon(0, 0);
        due(check, deck, "density 0<1", "0 0 0 0 -1 -1 0 @0");
        RuleDeck single = deck();
        Check.box(single, 0, 0, 1, 1, 2, 2);
        due(check, single, "density 0<101", "1 1 2 2 -1 -1 100 @0");
        Check.box(deck, 0, 0, 1, 1, 3, 2);
        due(check, deck, "density 0<100", "");
        due(check, deck, "density 0<101", "1 1 3 2 -1 -1 100 @0");
        due(check, deck, "density 1<1", "1 1 3 2 -1 -1 0 @0");
        Check.box(deck, 0, 1, 3, 2, 4, 4);
        due(check, deck, "density 0<22", "");
        due(check, deck, "density 0<23", "1 1 4 4 -1 -1 22 @0");
        for (int i = 0; i < 5; i++) {
            Check.box(deck, 0, 0, 1, 1, 4, 4);
        }
        due(check, deck, "density 0<523", "1 1 4 4 -1 -1 522 @0");
    }

    private static void findsCounts(Check check) {
        RuleDeck deck = deck();
        due(check, deck, "count 0<0", "");
        due(check, deck, "count 0<1", "0 0 0 0 -1 -1 0 @0");
        Check.box(deck, 0, 1, 5, 5, 6, 7);
        due(check, deck, "count 0<1", "5 5 6 7 -1 -1 0 @0");
        due(check, deck, "count 1<1", "");
        Check.box(deck, 0, 0, 1, 6, 2, 9);
        due(check, deck, "count 1<2", "1 5 6 9 -1 -1 1 @0");
    }

    /** Polygons that are not right are as if they were not there. */
    private static void leavesOthersOut(Check check) {
        RuleDeck deck = deck();
        Check.box(deck, 0, 0, 0, 0, 2, 4);
        Check.polygon(deck, 0, 0, 5, 0, 7, 0, 7, 4);
        for (String rule : new String[] {"space 0 0<9", "corner 0 0<9", "enclose 0 0<9", "overlap 0 0<9"}) {
            due(check, deck, rule, "");
        }
        due(check, deck, "area 0<9", "0 0 2 4 0 -1 8 @0");
        due(check, deck, "count 0<9", "0 0 2 4 -1 -1 1 @0");
        deck.corner(1, 5, 4);
        due(check, deck, "space 0 0<9", "2 0 5 4 0 1 3 @0");
    }
}
