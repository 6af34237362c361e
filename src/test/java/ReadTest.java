/** Promise 4 and the text of the rules, with promise 16 as far as it tells of rules. */
public final class ReadTest {
    private static final String[] ONE_LAYER = {"width", "notch", "area", "edge", "corners", "density", "count"};
    private static final String[] TWO_LAYERS = {"space", "corner", "enclose", "overlap"};

    public static void main(String[] args) {
        Check check = new Check();
        tellsTheWrongWord(check);
        knowsWhatKindsTake(check);
        boundsRules(check);
        boundsLayers(check);
        keepsRulesIfWrong(check);
        forgetsTheTapeBefore(check);
        forgetsRunsAndWaivers(check);
        check.end();
    }

    private static void due(Check check, String text, int want) {
        RuleDeck deck = new RuleDeck(3);
        check.due("read '" + text + "'", Check.read(deck, text), want);
        check.due("the tape is empty then", deck.count(4), 0);
        check.due("rules then", deck.count(0), want < 0 ? 0 : want);
    }

    private static void tellsTheWrongWord(Check check) {
        String whole = "a = space 0 1 < 3 run 2 volt 4 end 5 ; b = area 2 < 9 ;";
        String[] words = whole.split(" ");
        StringBuilder begun = new StringBuilder();
        for (int i = 0; i < words.length; i++) {
            boolean complete = i > 0 && words[i - 1].equals(";");
            due(check, begun.toString(), complete ? 1 : -1 - i);
            for (String odd : new String[] {"?", "A", "_", "abcdefghi", "1234567890", "-"}) {
                due(check, begun + odd + " " + whole, -1 - i);
            }
            begun.append(words[i]).append(i % 2 == 0 ? " " : "\n");
        }
        due(check, begun.toString(), 2);
        due(check, "a=space0 1<3run2volt4end5;b=area2<9;", 2);
        due(check, "\n\n  a=space 0 1<3 end 5 run 2 volt 4;", 1);
        due(check, "=width 0<3;", -1);
        due(check, "a width 0<3;", -1 - 1);
        due(check, "a 61 width 0<3;", -1 - 1);
        due(check, "a=width 0 60 3;", -1 - 4);
        due(check, "a=width 0<3 59", -1 - 6);
        due(check, "a=xidth 0<3;", -1 - 2);
        due(check, "a=width <3;", -1 - 3);
        due(check, "a=space 0 <3;", -1 - 4);
        due(check, "a=width 0<;", -1 - 5);
        due(check, "a=width 0<3 b=width 0<3;", -1 - 6);
        due(check, "a=space 0 0<3 end 1 run 1 volt 1 b=width 0<3;", -1 - 13);
        due(check, "a=space 0 0<3 end 1 run 1 volt 1 run 2;", -1 - 13);
        due(check, "a=width 0 0<3;", -1 - 4);
        due(check, "a=width 0<b;", -1 - 5);
        due(check, "a=width 0<=3;", -1 - 5);
        due(check, "a=width b<3;", -1 - 3);
        due(check, "1=width 0<3;", -1);
        due(check, ";", -1);
        due(check, "a=0 0<3;", -1 - 2);
        due(check, "a=widt 0<3;", -1 - 2);
        due(check, "a=widthh 0<3;", -1 - 2);
        due(check, "a=width 0<3 4;", -1 - 6);
        due(check, "a=width 0<3 run;", -1 - 7);
        due(check, "a=width 0<3 run run;", -1 - 7);
        due(check, "a=width 0<3 run 1 2;", -1 - 8);
        due(check, "a=width 0<3;a", -1 - 7);
        due(check, "a=width 0<3;b", -1 - 8);
        due(check, "abcdefgh=width 0<999999999 run 000000000;", 1);
        due(check, "width=width 0<3;run=area 0<1;", 2);
    }

    private static void knowsWhatKindsTake(Check check) {
        for (String kind : ONE_LAYER) {
            boolean run = kind.equals("width") || kind.equals("notch");
            due(check, "a=" + kind + " 2<3;", 1);
            due(check, "a=" + kind + " 2 1<3;", -1 - 4);
            dueCondition(check, "a=" + kind + " 2<3 ", 6, "run", run);
            dueCondition(check, "a=" + kind + " 2<3 ", 6, "volt", false);
            dueCondition(check, "a=" + kind + " 2<3 ", 6, "end", false);
        }
        for (String kind : TWO_LAYERS) {
            due(check, "a=" + kind + " 2 2<3;", 1);
            due(check, "a=" + kind + " 2<3;", -1 - 4);
            due(check, "a=" + kind + " 2 3<3;", -1 - 4);
            dueCondition(check, "a=" + kind + " 2 1<3 ", 7, "run", !kind.equals("corner"));
            dueCondition(check, "a=" + kind + " 2 1<3 ", 7, "volt", kind.equals("space") || kind.equals("corner"));
            dueCondition(check, "a=" + kind + " 2 1<3 ", 7, "end", kind.equals("space"));
        }
    }

    private static void dueCondition(Check check, String start, int word, String condition, boolean may) {
        due(check, start + condition + " 7;", may ? 1 : -1 - word);
        if (may) {
            due(check, start + condition + " 7 " + condition + " 8;", -1 - word - 2);
        }
    }

    private static String rules(int many) {
        StringBuilder text = new StringBuilder();
        for (int i = 0; i < many; i++) {
            text.append((char) ('a' + i)).append("=area 0<1;");
        }
        return text.toString();
    }

    private static void boundsRules(Check check) {
        due(check, rules(20), 20);
        due(check, rules(21), -1 - 140);
        due(check, rules(20) + "a", -1 - 140);
        due(check, rules(20) + "?", -1 - 140);
        due(check, rules(3) + "b=area 0<1;", -1 - 21);
        due(check, "b=area 0<1;ab=area 0<1;a=area 0<1;ba=area 0<1;", 4);
        due(check, "az=area 0<1;ba=area 0<1;aaz=area 0<1;aba=area 0<1;azzzzzzz=area 0<1;baaaaaaa=area 0<1;", 6);
        due(check, "zzzzzzzz=area 0<1;zzzzzzz=area 0<1;zzzzzzzz=area 0<1;", -1 - 14);
    }

    private static void boundsLayers(Check check) {
        int[][] cases = {{0, 1}, {-5, 1}, {Integer.MIN_VALUE, 1}, {1, 1}, {7, 7}, {65536, 65536}, {65537, 65536},
            {Integer.MAX_VALUE, 65536}};
        for (int[] one : cases) {
            RuleDeck deck = new RuleDeck(one[0]);
            check.due("a layer below them", Check.read(deck, "a=area " + (one[1] - 1) + "<1;"), 1);
            check.due("a layer that is not there", Check.read(deck, "a=area " + one[1] + "<1;"), -1 - 3);
        }
        RuleDeck deck = new RuleDeck(2);
        check.due("a layer with 0s before it", Check.read(deck, "a=area 000000001<1;"), 1);
        check.due("a layer of ten digits", Check.read(deck, "a=area 0000000001<1;"), -1 - 3);
    }

    private static void keepsRulesIfWrong(Check check) {
        RuleDeck deck = Check.deck(2, 1, "a=area 0<9;b=count 1<2;c=area 1<9;");
        Check.box(deck, 0, 0, 0, 0, 2, 2);
        check.due("kinds", deck.count(1), 2);
        deck.run(0, 0, true);
        deck.waive(0);
        check.due("a wrong text", Check.read(deck, "a=width 0<3;b=edge 0<3;c=edge 0<3;d=edge"), -1 - 24);
        check.due("rules", deck.count(0), 3);
        check.due("kinds", deck.count(1), 2);
        check.due("violations", deck.count(2), 1);
        check.due("waived", deck.count(3), 1);
        check.due("the latest run is flat still", deck.changed(0, 0, 1, 1), 1);
        check.due("the rule is the same", Check.run(deck, 2, 0, true), "");
        check.due("the rule is the same", Check.run(deck, 1, 0, true), "0 0 2 2 -1 -1 0 @0");
        check.due("fewer rules", Check.read(deck, "x=edge 0<3;"), 1);
        check.due("kinds", deck.count(1), 1);
        check.dueThrows("run(1)", IndexOutOfBoundsException.class, () -> deck.run(1, 0, true));
        check.due("no condition is left of a rule before", Check.read(deck, "a=width 0<9 run 5;"), 1);
        check.due("read", Check.read(deck, "a=width 0<9;"), 1);
        check.due("read", Check.read(deck, "a=width 0<9;"), 1);
        check.due("violations", deck.run(0, 0, true), 2);
    }

    private static void forgetsTheTapeBefore(Check check) {
        RuleDeck deck = new RuleDeck(1);
        check.due("a row that is too long", Check.read(deck, "aaaaaaaaaaaaaaaa"), -1);
        check.due("a row as long as can be", Check.read(deck, "abcdefgh"), -1 - 1);
        check.due("a row that is too long", Check.read(deck, "a=area 0<1234567890123456"), -1 - 5);
        check.due("a row as long as can be", Check.read(deck, "a=area 0<123456789"), -1 - 6);
        check.due("nothing", deck.read(), -1);
    }

    private static void forgetsRunsAndWaivers(Check check) {
        RuleDeck deck = Check.deck(1, 1, "a=area 0<9;");
        Check.box(deck, 0, 0, 0, 0, 2, 2);
        deck.run(0, 0, true);
        deck.waive(0);
        check.due("read", Check.read(deck, "a=area 0<9;"), 1);
        check.due("violations", deck.count(2), 0);
        check.due("waived", deck.count(3), 0);
        check.dueThrows("violation", IndexOutOfBoundsException.class, () -> deck.violation(0, 0));
        check.dueThrows("cellOf", IndexOutOfBoundsException.class, () -> deck.cellOf(0));
        check.dueThrows("waive", IndexOutOfBoundsException.class, () -> deck.waive(0));
        check.dueThrows("changed", IllegalStateException.class, () -> deck.changed(0, 0, 9, 9));
        check.due("it is told again", deck.run(0, 0, true), 1);
    }
}
