/** Terms, 2: a test for each sentence that bounds the tape, its words and the rules that they make. */
public final class TextTermsTest {
    private static final String TERMS = "Terms 2";
    private static final String[] ONE_LAYER = {"width", "notch", "area", "edge", "corners", "density", "count"};
    private static final String[] TWO_LAYERS = {"space", "corner", "enclose", "overlap"};

    public static void main(String[] args) {
        Check check = new Check();
        tapeRoom(check);
        tapeCharacters(check);
        longRows(check);
        names(check);
        numbers(check);
        signs(check);
        blanks(check);
        atLeastOneRule(check);
        atMostTwentyRules(check);
        orderOfWords(check);
        namesOnce(check);
        kindsOfOneLayer(check);
        kindsOfTwoLayers(check);
        layerNumbers(check);
        conditionsOnce(check);
        conditionsOfKinds(check);
        firstWrongWord(check);
        wrongRowsAndCharacters(check);
        textsThatEnd(check);
        check.end();
    }

    /** Below 0 is -1 less the wrong word; else so many rules. */
    private static void due(Check check, String text, int want) {
        RuleDeck deck = new RuleDeck(3);
        check.due("read '" + text + "'", Check.read(deck, text), want);
        check.due("rules then", deck.count(0), want < 0 ? 0 : want);
    }

    private static void dueWrong(Check check, String text, int word) {
        due(check, text, -1 - word);
    }

    private static void tapeRoom(Check check) {
        check.by(TERMS, "THE TAPE has up to 600 characters");
        RuleDeck deck = new RuleDeck(1);
        // 400 in 100 calls, then the rest one by one, so that the object stays below 512 calls.
        for (int i = 0; i < 100; i++) {
            Check.type(deck, "    ");
        }
        for (int i = 400; i < 600; i++) {
            check.due("character " + i, deck.unit(' '), true);
        }
        check.due("600", deck.count(4), 600);
        check.due("character 600", deck.unit(' '), false);
        check.due("600 still", deck.count(4), 600);
        RuleDeck whole = new RuleDeck(1);
        String rule = "a=area 0<1;";
        Check.type(whole, " ".repeat(600 - rule.length()));
        Check.type(whole, rule);
        check.due("600", whole.count(4), 600);
        check.due("all 600 are read", whole.read(), 1);
    }

    private static void tapeCharacters(Check check) {
        check.by(TERMS, "characters (32 .. 126, and 10)");
        for (int from = -256; from < 512; from += 128) {
            RuleDeck deck = new RuleDeck(1);
            int taken = 0;
            for (int u = from; u < from + 128; u++) {
                boolean due = u == 10 || (u >= 32 && u <= 126);
                check.due("unit(" + u + ")", deck.unit(u), due);
                taken += due ? 1 : 0;
                check.due("characters behind unit(" + u + ")", deck.count(4), taken);
            }
        }
        for (int u : new int[] {0, 9, 10, 11, 13, 31, 32, 126, 127, 128, 255}) {
            RuleDeck deck = new RuleDeck(1);
            boolean due = u == 0 || u == 10 || u == 32 || u == 126;
            check.due("units of " + u, deck.units(Check.four('a', u, 'b', 'c')), due);
        }
    }

    private static void longRows(Check check) {
        check.by(TERMS, "WORDS: as long as can be rows of small letters");
        due(check, "ab=area 0<1;", 1);
        dueWrong(check, "a b=area 0<1;", 1);
        dueWrong(check, "a=are a 0<1;", 2);
        due(check, "a=area 0<1;ab=area 0<1;abc=area 0<1;", 3);
        RuleDeck deck = new RuleDeck(13);
        check.due("12 is one number", Check.read(deck, "a=area 12<1;"), 1);
        check.due("1 2 are two", Check.read(deck, "a=area 1 2<1;"), -1 - 4);
        check.due("1 2 are two", Check.read(deck, "a=space 1 2<1;"), 1);
        check.due("12 is not", Check.read(deck, "a=space 12<1;"), -1 - 4);
        due(check, "a=area0<1;", 1);
        dueWrong(check, "a1=area 0<1;", 1);
        due(check, "a=space0 1<3run2volt4end5;", 1);
    }

    private static void names(Check check) {
        check.by(TERMS, "small letters (NAMES, 8 at most)");
        due(check, "abcdefgh=area 0<1;", 1);
        due(check, "zyxwvuts=area 0<1;", 1);
        dueWrong(check, "abcdefghi=area 0<1;", 0);
        dueWrong(check, "a=corrners 0<1;", 2);
        dueWrong(check, "a=cornersss 0<1;", 2);
        dueWrong(check, "a=area 0<1;abcdefghi=area 0<1;", 7);
        for (char odd : new char[] {'A', 'Z', '`', '{', '_'}) {
            dueWrong(check, odd + "=area 0<1;", 0);
            dueWrong(check, "a" + odd + "=area 0<1;", 1);
        }
    }

    private static void numbers(Check check) {
        check.by(TERMS, "of digits (NUMBERS, 9 at most)");
        due(check, "a=area 0<999999999;", 1);
        due(check, "a=area 0<0;", 1);
        due(check, "a=area 000000002<000000001;", 1);
        dueWrong(check, "a=area 0<1000000000;", 5);
        dueWrong(check, "a=area 0<0000000001;", 5);
        dueWrong(check, "a=area 0000000001<1;", 3);
        dueWrong(check, "a=width 0<1 run 1234567890;", 7);
        for (char odd : new char[] {'/', ':', '-', '+', '.'}) {
            dueWrong(check, "a=area 0<" + odd + "1;", 5);
            dueWrong(check, "a=area 0<1" + odd + "1;", 6);
        }
        RuleDeck deck = Check.deck(1, 1);
        Check.box(deck, 0, 0, -10000, -10000, 10000, 10000);
        check.dueTold(deck, "area 0<999999999", "-10000 -10000 10000 10000 0 -1 400000000 @0");
        check.dueTold(deck, "area 0<400000001", "-10000 -10000 10000 10000 0 -1 400000000 @0");
        check.dueTold(deck, "area 0<400000000", "");
    }

    private static void signs(Check check) {
        check.by(TERMS, "and each of < = ; alone");
        dueWrong(check, "a==area 0<1;", 2);
        dueWrong(check, "a=area 0<<1;", 5);
        dueWrong(check, "a=area 0<=1;", 5);
        dueWrong(check, "a=area 0<1;;", 7);
        dueWrong(check, "a=area 0<1;=", 7);
        dueWrong(check, "a<area 0<1;", 1);
        dueWrong(check, "a=area 0=1;", 4);
        dueWrong(check, "a=area 0;1;", 4);
        dueWrong(check, "a=area 0<1<", 6);
        dueWrong(check, "a=area 0>1;", 4);
        // A number is no sign, though it is the sign's character.
        dueWrong(check, "a 61 area 0<1;", 1);
        dueWrong(check, "a=area 0 60 1;", 4);
        dueWrong(check, "a=area 0<1 59", 6);
    }

    private static void blanks(Check check) {
        check.by(TERMS, "parted by blanks (32, 10) or not");
        due(check, "a=area 0<1;b=area 1<2;", 2);
        due(check, "a = area 0 < 1 ; b = area 1 < 2 ;", 2);
        due(check, "a\n=\narea\n0\n<\n1\n;\nb\n=\narea\n1\n<\n2\n;\n", 2);
        due(check, "\n \n a  =\n\narea  0  <  1  ;  \n", 1);
        dueWrong(check, "a\nb=area 0<1;", 1);
        dueWrong(check, "\n\n  =area 0<1;", 0);
    }

    private static void atLeastOneRule(Check check) {
        check.by(TERMS, "The text are RULES, one at least");
        dueWrong(check, "", 0);
        dueWrong(check, " ", 0);
        dueWrong(check, "\n \n", 0);
        dueWrong(check, ";", 0);
        due(check, "a=area 0<1;", 1);
    }

    private static String rules(int many) {
        StringBuilder text = new StringBuilder();
        for (int i = 0; i < many; i++) {
            text.append((char) ('a' + i)).append("=area 0<1;");
        }
        return text.toString();
    }

    private static void atMostTwentyRules(Check check) {
        check.by(TERMS, "one at least, 20 at most");
        due(check, rules(19), 19);
        due(check, rules(20), 20);
        dueWrong(check, rules(21), 140);
        RuleDeck deck = Check.deck(1, 1, rules(20));
        check.due("the last one can be run", deck.run(19, 0, true), 0);
        check.dueNoSuch("rule 20", () -> deck.run(20, 0, true));
    }

    private static void orderOfWords(Check check) {
        check.by(TERMS, "NAME = KIND LAYERS < NUMBER CONDITIONS ;");
        String[] words = "a = space 0 1 < 3 run 2 volt 4 end 5 ; b = area 2 < 9 ;".split(" ");
        String[] others = {"=", "<", ";", "7", "area", "run", "x"};
        for (int i = 0; i < words.length; i++) {
            for (String other : others) {
                if (canStand(words, i, other)) {
                    continue;
                }
                String[] changed = words.clone();
                changed[i] = other;
                dueWrong(check, String.join(" ", changed), i);
            }
        }
        due(check, String.join(" ", words), 2);
        dueWrong(check, "=area 0<1;", 0);
        dueWrong(check, "a area 0<1;", 1);
        dueWrong(check, "a=0<1;", 2);
        dueWrong(check, "a=0 0<1;", 2);
        dueWrong(check, "a=area<1;", 3);
        dueWrong(check, "a=space 0<1;", 4);
        dueWrong(check, "a=area 0 1;", 4);
        dueWrong(check, "a=area 0<;", 5);
        dueWrong(check, "a=area 0<1 b=area 0<1;", 6);
        dueWrong(check, "a=width 0<3 b=width 0<3;", 6);
        dueWrong(check, "a=space 0 0<3 end 1 run 1 volt 1 b=width 0<3;", 13);
        dueWrong(check, "a=width 0<3 run 1 2;", 8);
        due(check, "width=width 0<3;run=area 0<1;volt=edge 0<1;end=count 0<1;", 4);
    }

    /** Of the text in orderOfWords(): names are free, and so are numbers but layers above 2; conditions may end. */
    private static boolean canStand(String[] words, int at, String other) {
        boolean isName = other.equals("area") || other.equals("run") || other.equals("x");
        boolean nameThere = at == 0 || at == 14;
        boolean numberThere = at == 6 || at == 8 || at == 10 || at == 12 || at == 19;
        boolean conditionThere = at == 7 || at == 9 || at == 11;
        boolean kindThere = at == 2 || at == 16;
        return words[at].equals(other) || (nameThere && isName) || (numberThere && other.equals("7"))
                || (conditionThere && other.equals(";")) || (kindThere && other.equals("area"));
    }

    private static void namesOnce(Check check) {
        check.by(TERMS, "the name that of no rule before");
        dueWrong(check, "a=area 0<1;a=area 0<1;", 7);
        dueWrong(check, "a=area 0<1;b=area 0<1;c=area 0<1;b=area 0<1;", 21);
        dueWrong(check, "a=area 0<1;b=area 0<1;c=area 0<1;a=area 0<1;", 21);
        dueWrong(check, "zzzzzzzz=area 0<1;zzzzzzz=area 0<1;zzzzzzzz=area 0<1;", 14);
        due(check, "b=area 0<1;ab=area 0<1;a=area 0<1;ba=area 0<1;aa=area 0<1;", 5);
        due(check, "az=area 0<1;ba=area 0<1;aaz=area 0<1;aba=area 0<1;azzzzzzz=area 0<1;baaaaaaa=area 0<1;", 6);
        RuleDeck deck = Check.deck(1, 1, "a=area 0<1;b=area 0<1;");
        check.due("rules of another text have their own", Check.read(deck, "b=area 0<1;a=area 0<1;"), 2);
    }

    private static void kindsOfOneLayer(Check check) {
        check.by(TERMS, "KINDS: width notch area edge corners density count (with one LAYER, a number below layers)");
        for (String kind : ONE_LAYER) {
            due(check, "a=" + kind + " 2<3;", 1);
            dueWrong(check, "a=" + kind + " 3<3;", 3);
            dueWrong(check, "a=" + kind + " 2 1<3;", 4);
            dueWrong(check, "a=" + kind + "<3;", 3);
            dueWrong(check, "a=" + kind + "s 2<3;", 2);
            dueWrong(check, "a=" + kind.substring(1) + " 2<3;", 2);
            dueWrong(check, "a=x" + kind.substring(1) + " 2<3;", 2);
        }
        // What is one letter short of a kind of one layer may be one of two.
        dueWrong(check, "a=corner 2<3;", 4);
    }

    private static void kindsOfTwoLayers(Check check) {
        check.by(TERMS, "space corner enclose overlap (with two, which may be the same)");
        for (String kind : TWO_LAYERS) {
            due(check, "a=" + kind + " 0 2<3;", 1);
            due(check, "a=" + kind + " 2 0<3;", 1);
            due(check, "a=" + kind + " 2 2<3;", 1);
            dueWrong(check, "a=" + kind + " 2<3;", 4);
            dueWrong(check, "a=" + kind + " 3 2<3;", 3);
            dueWrong(check, "a=" + kind + " 2 3<3;", 4);
            dueWrong(check, "a=" + kind + " 2 2 2<3;", 5);
            dueWrong(check, "a=" + kind + "<3;", 3);
        }
    }

    private static void layerNumbers(Check check) {
        check.by(TERMS, "a number below layers");
        for (int layers : new int[] {1, 2, 100, 65536}) {
            RuleDeck deck = new RuleDeck(layers);
            check.due("the last layer", Check.read(deck, "a=area " + (layers - 1) + "<1;"), 1);
            check.due("the one behind it", Check.read(deck, "a=area " + layers + "<1;"), -1 - 3);
            check.due("one far behind it", Check.read(deck, "a=area 999999999<1;"), -1 - 3);
            check.due("both the last one", Check.read(deck, "a=space " + (layers - 1) + " " + (layers - 1) + "<1;"), 1);
            check.due("the other one behind it", Check.read(deck, "a=space 0 " + layers + "<1;"), -1 - 4);
        }
    }

    private static void conditionsOnce(Check check) {
        check.by(TERMS, "CONDITIONS, each once at most, in any order");
        String[] conditions = {"run 7", "volt 8", "end 9"};
        for (int i = 0; i < 3; i++) {
            for (int j = 0; j < 3; j++) {
                String two = "a=space 0 0<3 " + conditions[i] + " " + conditions[j];
                if (i == j) {
                    dueWrong(check, two + ";", 9);
                    continue;
                }
                due(check, two + ";", 1);
                due(check, two + " " + conditions[3 - i - j] + ";", 1);
                dueWrong(check, two + " " + conditions[i] + ";", 11);
                dueWrong(check, two + " " + conditions[3 - i - j] + " " + conditions[j] + ";", 13);
            }
        }
        due(check, "a=space 0 0<3;", 1);
        RuleDeck deck = Check.deck(1, 1, "a=space 0 0<3 run 7;");
        check.due("another text has its own", Check.read(deck, "a=space 0 0<3 run 7;"), 1);
        check.due("another rule, too", Check.read(deck, "a=space 0 0<3 run 7;b=space 0 0<3 run 7;"), 2);
    }

    private static void conditionsOfKinds(Check check) {
        for (String kind : ONE_LAYER) {
            dueCondition(check, kind + " 2<3 ", 6, "run", kind.equals("width") || kind.equals("notch"));
            dueCondition(check, kind + " 2<3 ", 6, "volt", false);
            dueCondition(check, kind + " 2<3 ", 6, "end", false);
        }
        for (String kind : TWO_LAYERS) {
            dueCondition(check, kind + " 2 1<3 ", 7, "run", !kind.equals("corner"));
            dueCondition(check, kind + " 2 1<3 ", 7, "volt", kind.equals("space") || kind.equals("corner"));
            dueCondition(check, kind + " 2 1<3 ", 7, "end", kind.equals("space"));
        }
    }

    private static void dueCondition(Check check, String start, int word, String condition, boolean may) {
        String[] sentences = {"run NUMBER (with width, notch, space, enclose, overlap)", "volt NUMBER (space, corner)", "end NUMBER (space)"};
        check.by(TERMS, sentences[condition.equals("run") ? 0 : condition.equals("volt") ? 1 : 2]);
        due(check, "a=" + start + condition + " 7;", may ? 1 : -1 - word);
        due(check, "a=" + start + condition + " 0;", may ? 1 : -1 - word);
        dueWrong(check, "a=" + start + condition + ";", may ? word + 1 : word);
        dueWrong(check, "a=" + start + condition + " x;", may ? word + 1 : word);
        dueWrong(check, "a=" + start + condition + "s 7;", word);
        dueWrong(check, "a=" + start + "7;", word);
    }

    private static void firstWrongWord(Check check) {
        check.by(TERMS, "THE WRONG WORD is the first one (from 0) that cannot stand where it stands");
        dueWrong(check, "1 ? ?", 0);
        dueWrong(check, "a ? ?", 1);
        dueWrong(check, "a=area 0<1;a=area 9<1 run;", 7);
        dueWrong(check, "a=area 9<1;a=area 0<1;", 3);
        dueWrong(check, "a=area 0<1;b=area 9<;", 10);
        // Twenty rules may have more than a hundred words before the wrong one.
        dueWrong(check, rules(19) + "z=area 0<1 run 1;", 139);
        dueWrong(check, "a=area 0<1;".concat("b=space 0 0<1 run 1 volt 1 end 1 end"), 20);
    }

    private static void wrongRowsAndCharacters(Check check) {
        check.by(TERMS, "(also a row that is too long, another character, the 21st rule's name)");
        String whole = "a = space 0 1 < 3 run 2 volt 4 end 5 ; b = area 2 < 9 ;";
        String[] words = whole.split(" ");
        for (int i = 0; i < words.length; i++) {
            for (String odd : new String[] {"?", "A", "~", "!", "abcdefghi", "1234567890", "-"}) {
                String[] changed = words.clone();
                changed[i] = odd;
                dueWrong(check, String.join(" ", changed), i);
            }
        }
        dueWrong(check, whole + "?", words.length);
        dueWrong(check, whole + "abcdefghi", words.length);
        dueWrong(check, rules(20) + "z", 140);
        dueWrong(check, rules(20) + "z=area 0<1;", 140);
        dueWrong(check, rules(20) + "?", 140);
        dueWrong(check, rules(20) + ";", 140);
    }

    private static void textsThatEnd(Check check) {
        check.by(TERMS, "if the text ends too soon, it is the number of words");
        String[] words = "a = space 0 1 < 3 run 2 volt 4 end 5 ; b = area 2 < 9 ;".split(" ");
        StringBuilder begun = new StringBuilder();
        for (int i = 0; i < words.length; i++) {
            boolean complete = i > 0 && words[i - 1].equals(";");
            due(check, begun.toString(), complete ? 1 : -1 - i);
            due(check, begun + " \n", complete ? 1 : -1 - i);
            begun.append(words[i]).append(' ');
        }
        dueWrong(check, "abcdefgh", 1);
        dueWrong(check, rules(19) + "z=area 0<1", 139);
    }
}
