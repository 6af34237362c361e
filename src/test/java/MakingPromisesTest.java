/** Promises 1 to 9 and 17: a test for each sentence on new objects, the tape, reading, and what makes a layout. */
public final class MakingPromisesTest {
    public static void main(String[] args) {
        Check check = new Check();
        newLayers(check);
        newIsEmpty(check);
        unit(check);
        unitsInOrder(check);
        unitsAllOrNone(check);
        unitsWithRoom(check);
        readEmptiesTheTape(check);
        readReplacesRules(check);
        readForgetsRunsAndWaivers(check);
        readKeepsRulesIfWrong(check);
        cell(check);
        polygon(check);
        corner(check);
        cornerFull(check);
        voltage(check);
        place(check);
        placeInItself(check);
        occurrences(check);
        check.end();
    }

    private static void newLayers(Check check) {
        check.by("Promise 1", "So many layers (1, if they are below that, 65536, if above)");
        int[][] cases = {{Integer.MIN_VALUE, 1}, {-65537, 1}, {-1, 1}, {0, 1}, {1, 1}, {2, 2}, {65535, 65535}, {65536, 65536},
            {65537, 65536}, {1 << 20, 65536}, {Integer.MAX_VALUE, 65536}};
        for (int[] one : cases) {
            RuleDeck deck = Check.deck(one[0], 1);
            check.due("a polygon on the last layer of " + one[0], deck.polygon(0, one[1] - 1), 0);
            check.dueNoSuch("a polygon on the layer behind it", () -> deck.polygon(0, one[1]));
            check.due("a rule of the last layer", Check.read(deck, "a=area " + (one[1] - 1) + "<1;"), 1);
            check.due("a rule of the layer behind it", Check.read(deck, "a=area " + one[1] + "<1;"), -1 - 3);
        }
    }

    private static void newIsEmpty(Check check) {
        check.by("Promise 1", "no cells, no rules");
        RuleDeck deck = new RuleDeck(2);
        for (int what = 0; what <= 4; what++) {
            check.due("count(" + what + ")", deck.count(what), 0);
        }
        check.dueNoSuch("occurrences", () -> deck.occurrences(0));
        check.dueNoSuch("polygon", () -> deck.polygon(0, 0));
        check.dueNoSuch("corner", () -> deck.corner(0, 0, 0));
        check.dueNoSuch("voltage", () -> deck.voltage(0, 0));
        check.dueNoSuch("place", () -> deck.place(0, 0, 0, 0, 0));
        check.dueNoSuch("run", () -> deck.run(0, 0, true));
        check.dueNoSuch("same", () -> deck.same(0, 0));
        check.dueNoSuch("violation", () -> deck.violation(0, 0));
        check.dueNoSuch("cellOf", () -> deck.cellOf(0));
        check.dueNoSuch("waive", () -> deck.waive(0));
        check.dueFull("changed", () -> deck.changed(0, 0, 0, 0));
        deck.cell();
        check.dueNoSuch("no rules, though there is a cell", () -> deck.run(0, 0, true));
        check.due("no text", deck.read(), -1);
    }

    private static void unit(Check check) {
        check.by("Promise 2", "A character more on the tape: whether it was one and there was room");
        RuleDeck deck = new RuleDeck(1);
        for (char c : "a=area 0\n<1;".toCharArray()) {
            check.due("unit", deck.unit(c), true);
        }
        check.due("twelve", deck.count(4), 12);
        for (int wrong : new int[] {0, 9, 11, 13, 31, 127, 128, -1, 'a' + 256, -95, 1 << 16, Integer.MIN_VALUE, Integer.MAX_VALUE}) {
            check.due("unit(" + wrong + ")", deck.unit(wrong), false);
        }
        check.due("twelve still", deck.count(4), 12);
        check.due("what came is what is read", deck.read(), 1);
        Check.type(deck, " ".repeat(599));
        check.due("the last one", deck.unit(';'), true);
        check.due("one more", deck.unit(';'), false);
        check.due("a wrong one", deck.unit(0), false);
        check.due("600", deck.count(4), 600);
        check.due("the last one is there", deck.read(), -1);
        check.due("there is room again", deck.unit(' '), true);
    }

    private static void unitsInOrder(Check check) {
        check.by("Promise 3", "Four characters more, the highest byte first");
        RuleDeck deck = new RuleDeck(1);
        check.due("units", deck.units(Check.four('a', '=', 'a', 'r')), true);
        check.due("four", deck.count(4), 4);
        check.due("units", deck.units(Check.four('e', 'a', 10, '0')), true);
        check.due("units", deck.units(Check.four('<', '1', ';', ' ')), true);
        check.due("twelve", deck.count(4), 12);
        check.due("read", deck.read(), 1);
        check.by("Promise 3", "0s are left out");
        int[] packed = {Check.four('a', 0, 0, '='), Check.four(0, 'a', 'r', 0), Check.four(0, 0, 'e', 'a'), Check.four('0', 0, '<', 0),
            Check.four(0, 0, 0, '1'), 0, Check.four(';', 0, 0, 0)};
        int[] many = {2, 4, 6, 8, 9, 9, 10};
        for (int i = 0; i < packed.length; i++) {
            check.due("units", deck.units(packed[i]), true);
            check.due("so many", deck.count(4), many[i]);
        }
        check.due("no blanks came for them", deck.read(), 1);
    }

    private static void unitsAllOrNone(Check check) {
        check.by("Promise 3", "whether all were such, and there was room for them (else none comes)");
        RuleDeck deck = new RuleDeck(1);
        Check.type(deck, "a=");
        for (int wrong : new int[] {1, 9, 11, 31, 127, 128, 200, 255}) {
            check.due("the first one is " + wrong, deck.units(Check.four(wrong, 'a', 'b', 'c')), false);
            check.due("the second one", deck.units(Check.four('a', wrong, 'b', 'c')), false);
            check.due("the third one", deck.units(Check.four('a', 'b', wrong, 'c')), false);
            check.due("the last one", deck.units(Check.four('a', 'b', 'c', wrong)), false);
            check.due("with 0s", deck.units(Check.four(0, 0, 'c', wrong)), false);
            check.due("none came", deck.count(4), 2);
        }
        check.due("what was there goes on", Check.read(deck, "area 0<1;"), 1);
    }

    private static void unitsWithRoom(Check check) {
        check.by("Promise 3", "there was room for them (else none comes)");
        for (int room = 0; room <= 4; room++) {
            for (int many = 0; many <= 4; many++) {
                RuleDeck deck = new RuleDeck(1);
                Check.type(deck, " ".repeat(600 - room));
                int packed = 0;
                for (int i = 0; i < many; i++) {
                    packed |= ' ' << (8 * i);
                }
                check.due(many + " with room for " + room, deck.units(packed), many <= room);
                check.due("so many", deck.count(4), 600 - room + (many <= room ? many : 0));
            }
        }
    }

    private static void readEmptiesTheTape(Check check) {
        check.by("Promise 4", "The tape (which is empty then) is read");
        RuleDeck deck = new RuleDeck(1);
        check.due("a text", Check.read(deck, "a=area 0<1;"), 1);
        check.due("empty", deck.count(4), 0);
        check.due("nothing is there to be read again", deck.read(), -1);
        check.due("a wrong text", Check.read(deck, "a=area 0<123456789"), -1 - 6);
        check.due("empty", deck.count(4), 0);
        check.due("nothing of it is left", Check.read(deck, ";"), -1);
        check.due("a row that is too long", Check.read(deck, "aaaaaaaaaaaaaaaa"), -1);
        check.due("what follows it there is not read", Check.read(deck, "abcdefgh"), -1 - 1);
        Check.type(deck, " ".repeat(600));
        check.due("a full tape", deck.read(), -1);
        Check.type(deck, " ".repeat(600));
        check.due("600 again", deck.count(4), 600);
    }

    private static void readReplacesRules(Check check) {
        check.by("Promise 4", "how many rules there are then, in place of those before");
        RuleDeck deck = Check.deck(1, 1);
        Check.box(deck, 0, 0, 0, 0, 2, 3);
        check.due("three", Check.read(deck, "a=area 0<9;b=edge 0<9;c=width 0<9 run 3;"), 3);
        check.due("three", deck.count(0), 3);
        check.due("one", Check.read(deck, "x=width 0<3;"), 1);
        check.due("one", deck.count(0), 1);
        check.dueNoSuch("the second one is gone", () -> deck.run(1, 0, true));
        check.due("the first one is another", Check.run(deck, 0, 0, true), "0 0 2 3 0 -1 2 @0");
        check.due("two, one without its condition", Check.read(deck, "a=area 0<9;b=edge 0<9;c=width 0<9;"), 3);
        check.due("the condition is gone", deck.run(2, 0, true), 2);
        check.due("the layout stays", deck.occurrences(0), 1);
    }

    private static RuleDeck runAndWaived(boolean flat) {
        RuleDeck deck = Check.deck(1, 1, "a=area 0<9;b=edge 0<3;");
        Check.box(deck, 0, 0, 0, 0, 2, 2);
        deck.run(0, 0, flat);
        deck.waive(0);
        deck.run(1, 0, flat);
        return deck;
    }

    private static void readForgetsRunsAndWaivers(Check check) {
        check.by("Promise 4", "(nothing was run then, nothing is waived)");
        RuleDeck deck = runAndWaived(true);
        check.due("the same text again", Check.read(deck, "a=area 0<9;b=edge 0<3;"), 2);
        check.due("violations", deck.count(2), 0);
        check.due("waived ones", deck.count(3), 0);
        check.dueNoSuch("violation", () -> deck.violation(0, 0));
        check.dueNoSuch("cellOf", () -> deck.cellOf(0));
        check.dueNoSuch("waive", () -> deck.waive(0));
        check.dueFull("changed", () -> deck.changed(0, 0, 9, 9));
        check.due("it is told again", deck.run(0, 0, true), 1);
        check.due("and can be waived again", deck.waive(0), true);
    }

    private static void readKeepsRulesIfWrong(Check check) {
        check.by("Promise 4", "-1 less the wrong word: then the rules stay");
        String[] texts = {"", "?", "a=width 0<3;b=edge 0<3;c=edge 0<3;d=edge", "a=width 0<3;b=width 0<3;c=width 1<3;"};
        int[] words = {0, 0, 24, 17};
        for (int i = 0; i < texts.length; i++) {
            RuleDeck deck = runAndWaived(true);
            String before = Check.state(deck, 1);
            check.due("read '" + texts[i] + "'", Check.read(deck, texts[i]), -1 - words[i]);
            check.due("all is as before", Check.state(deck, 1), before);
            check.due("what was waived is waived", deck.run(0, 0, true), 0);
            check.due("the second rule is the same", deck.run(1, 0, true), 4);
        }
    }

    private static void cell(Check check) {
        check.by("Promise 5", "A new cell: its number");
        RuleDeck deck = new RuleDeck(1);
        check.due("the first one", deck.cell(), 0);
        check.due("has nothing in it", deck.occurrences(0), 0);
        check.dueNoSuch("there is no other", () -> deck.occurrences(1));
        for (int i = 1; i < 16; i++) {
            check.due("cell", deck.cell(), i);
        }
        check.by("Promise 5", "IllegalStateException");
        check.dueFull("one more", deck::cell);
        check.due("the last one is there", deck.occurrences(15), 0);
    }

    private static void polygon(Check check) {
        check.by("Promise 6", "A new polygon without corners: its number");
        RuleDeck deck = Check.deck(1, 2);
        check.due("the first one", deck.polygon(1, 0), 0);
        check.due("it is not right", deck.occurrences(1), 0);
        check.due("any corner can be its first one", deck.corner(0, 7, -7), true);
        check.due("the next one", deck.polygon(0, 0), 1);
        check.due("it has no corners of the one before", deck.corner(1, 0, 0), true);
        for (int i = 2; i < 64; i++) {
            check.due("polygon", deck.polygon(0, 0), i);
        }
        check.by("Promise 6", "IndexOutOfBoundsException; IllegalStateException");
        check.dueFull("one more", () -> deck.polygon(0, 0));
        check.dueNoSuch("no such cell", () -> deck.polygon(2, 0));
        check.dueNoSuch("no such layer", () -> deck.polygon(0, 1));
        check.dueNoSuch("no such polygon", () -> deck.corner(64, 0, 0));
    }

    private static void corner(Check check) {
        check.by("Promise 7", "One more corner: whether it differs from the one before in just one");
        RuleDeck deck = Check.deck(1, 1, "a=area 0<99;b=corners 0<99;");
        deck.polygon(0, 0);
        check.due("the first one", deck.corner(0, 0, 0), true);
        check.due("in x", deck.corner(0, 4, 0), true);
        check.due("in y", deck.corner(0, 4, 3), true);
        check.by("Promise 7", "(else it is not there; the first one always is)");
        check.due("in none", deck.corner(0, 4, 3), false);
        check.due("in both", deck.corner(0, 5, 4), false);
        check.due("in both", deck.corner(0, 0, 0), false);
        check.due("in x from the one that is there", deck.corner(0, 0, 3), true);
        check.due("the box of those four", Check.run(deck, 0, 0, true), "0 0 4 3 0 -1 12 @0");
        check.due("in none", deck.corner(0, 0, 3), false);
        check.due("in both", deck.corner(0, 1, 1), false);
        check.due("four still", Check.run(deck, 1, 0, true), "0 0 4 3 0 -1 4 @0");
        check.due("on along the side", deck.corner(0, 0, 1), true);
        check.due("makes it no right one", deck.occurrences(0), 0);
        long[][] firsts = {{0, 0}, {10000, 10000}, {-10000, 10000}};
        for (int i = 0; i < firsts.length; i++) {
            deck.polygon(0, 0);
            check.due("the first one always is", deck.corner(1 + i, firsts[i][0], firsts[i][1]), true);
        }
    }

    private static void cornerFull(Check check) {
        check.by("Promise 7", "IllegalStateException: it has 16");
        RuleDeck deck = Check.deck(1, 1);
        deck.polygon(0, 0);
        for (int i = 0; i < 15; i++) {
            check.due("corner " + i, deck.corner(0, i, 0), true);
            check.due("one that is not there takes no room", deck.corner(0, i, 0), false);
        }
        check.due("the sixteenth", deck.corner(0, 15, 0), true);
        check.dueFull("one more", () -> deck.corner(0, 16, 0));
        check.dueFull("one that would not be there", () -> deck.corner(0, 15, 0));
        check.dueFull("one too far", () -> deck.corner(0, 10001, 0));
        check.by("Promise 7", "IndexOutOfBoundsException; IllegalStateException: it has 16; IllegalArgumentException");
        check.dueNoSuch("no such polygon", () -> deck.corner(1, 0, 0));
        deck.polygon(0, 0);
        check.dueOutOfRange("too far", () -> deck.corner(1, -10001, 0));
        check.dueOutOfRange("too far", () -> deck.corner(1, 0, 10001));
        check.due("the first one is still to come", deck.corner(1, 5, 5), true);
    }

    private static void voltage(Check check) {
        check.by("Promise 8", "A polygon's voltage: whether it is another one than before");
        RuleDeck deck = Check.deck(1, 1);
        deck.polygon(0, 0);
        deck.polygon(0, 0);
        check.due("0 as before", deck.voltage(0, 0), false);
        check.due("another one", deck.voltage(0, 1), true);
        check.due("the same", deck.voltage(0, 1), false);
        check.due("its opposite", deck.voltage(0, -1), true);
        check.due("0 again", deck.voltage(0, 0), true);
        check.due("each polygon has its own", deck.voltage(1, 0), false);
        check.by("Promise 8", "v is not -1000000 .. 1000000");
        check.due("the highest one", deck.voltage(0, 1000000), true);
        check.due("the lowest one", deck.voltage(0, -1000000), true);
        for (long wrong : new long[] {1000001, -1000001, Long.MAX_VALUE, Long.MIN_VALUE, 1L << 32, -(1L << 32), (1L << 32) + 1}) {
            check.dueOutOfRange("voltage " + wrong, () -> deck.voltage(0, wrong));
            check.dueNoSuch("no polygon comes first", () -> deck.voltage(2, wrong));
        }
        check.due("it stayed", deck.voltage(0, -1000000), false);
    }

    private static void place(Check check) {
        check.by("Promise 9", "A new place: its number");
        RuleDeck deck = Check.deck(1, 2);
        for (int i = 0; i < 31; i++) {
            check.due("place", deck.place(0, 1, i, -i, i % 8), i);
        }
        check.due("one that is none takes no number", deck.place(1, 0, 0, 0, 0), -1);
        check.by("Promise 9", "IllegalArgumentException: also no such turn");
        check.dueOutOfRange("turn 8", () -> deck.place(0, 1, 0, 0, 8));
        check.dueOutOfRange("turn -1", () -> deck.place(0, 1, 0, 0, -1));
        check.dueOutOfRange("x", () -> deck.place(0, 1, 10001, 0, 0));
        check.dueOutOfRange("y", () -> deck.place(0, 1, 0, -10001, 0));
        check.due("the last one", deck.place(0, 1, -10000, 10000, 7), 31);
        check.by("Promise 9", "IndexOutOfBoundsException; IllegalStateException; IllegalArgumentException");
        check.dueFull("one more", () -> deck.place(0, 1, 0, 0, 0));
        check.dueFull("one more, and no such turn", () -> deck.place(0, 1, 0, 0, 8));
        check.dueNoSuch("no such cell", () -> deck.place(2, 1, 0, 0, 8));
        check.dueNoSuch("no such cell in it", () -> deck.place(0, 2, 0, 0, 8));
    }

    private static void placeInItself(Check check) {
        check.by("Promise 9", "NONE if a cell would be in itself (asked behind all exceptions)");
        RuleDeck deck = Check.deck(1, 3);
        Check.box(deck, 2, 0, 0, 0, 1, 1);
        check.due("itself", deck.place(0, 0, 0, 0, 0), RuleDeck.NONE);
        check.due("a place", deck.place(0, 1, 0, 0, 0), 0);
        check.due("its own holder", deck.place(1, 0, 0, 0, 0), RuleDeck.NONE);
        check.due("a place", deck.place(1, 2, 0, 0, 0), 1);
        check.due("over another one", deck.place(2, 0, 0, 0, 0), RuleDeck.NONE);
        check.due("nothing came of it", deck.occurrences(0), 1);
        check.due("nothing came of it", deck.occurrences(2), 1);
        check.dueOutOfRange("in itself, and no such turn", () -> deck.place(0, 0, 0, 0, 8));
        check.dueOutOfRange("in itself, and too far", () -> deck.place(2, 0, 10001, 0, 0));
        for (int i = 2; i < 32; i++) {
            deck.place(0, 1, 0, 0, 0);
        }
        check.dueFull("in itself, and as many as can be", () -> deck.place(0, 0, 0, 0, 0));
        check.dueNoSuch("no such cell in itself", () -> deck.place(3, 3, 0, 0, 0));
    }

    private static void occurrences(Check check) {
        check.by("Promise 17", "Of a cell: how many occurrences it has");
        RuleDeck deck = Check.deck(2, 3);
        check.due("none", deck.occurrences(0), 0);
        Check.box(deck, 1, 0, 0, 0, 1, 1);
        Check.box(deck, 1, 1, 0, 0, 1, 1);
        deck.polygon(1, 0);
        check.due("on any layer, right ones alone", deck.occurrences(1), 2);
        deck.place(0, 1, 0, 0, 0);
        deck.place(0, 1, 0, 0, 0);
        check.due("at each place", deck.occurrences(0), 4);
        check.due("no other cell", deck.occurrences(2), 0);
        check.by("Promise 17", "IndexOutOfBoundsException; UnsupportedOperationException");
        check.dueNoSuch("cell 3", () -> deck.occurrences(3));
        check.dueNoSuch("cell -1", () -> deck.occurrences(-1));
        for (int i = 0; i < 30; i++) {
            deck.place(0, 1, 0, 0, 0);
        }
        for (int i = 0; i < 36; i++) {
            Check.box(deck, 0, 0, 0, 0, 1, 1);
        }
        check.due("100", deck.occurrences(0), 100);
        Check.box(deck, 0, 1, 0, 0, 1, 1);
        check.dueTooMany("101", () -> deck.occurrences(0));
    }
}
