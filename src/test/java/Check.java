import java.util.concurrent.Callable;

/** Counts answers that are not as due, and says short words for long calls. */
final class Check {
    private int wrong = 0;
    private int asked = 0;
    private int sentences = 0;
    private int askedBefore = 0;
    private String sentence = "";

    /** Names the words of the document that the answers behind this call are due by. */
    void by(String where, String words) {
        endSentence();
        sentences++;
        sentence = where + " '" + words + "': ";
    }

    /** A sentence without a question would be tested by name alone. */
    private void endSentence() {
        if (sentences > 0 && asked == askedBefore) {
            wrong++;
            System.out.println(sentence + "nothing was asked");
        }
        askedBefore = asked;
    }

    void due(String what, long got, long want) {
        due(what, String.valueOf(got), String.valueOf(want));
    }

    void due(String what, boolean got, boolean want) {
        due(what, String.valueOf(got), String.valueOf(want));
    }

    void due(String what, String got, String want) {
        asked++;
        if (!got.equals(want)) {
            wrong++;
            System.out.println(sentence + what + " answered " + got + ", due is " + want);
        }
    }

    /** Exactly this class must be thrown: a subclass would be an exception that came by itself. */
    void dueThrows(String what, Class<? extends RuntimeException> want, Callable<?> call) {
        due(what, thrownBy(call), want.getSimpleName());
    }

    void dueNoSuch(String what, Callable<?> call) {
        dueThrows(what, IndexOutOfBoundsException.class, call);
    }

    void dueFull(String what, Callable<?> call) {
        dueThrows(what, IllegalStateException.class, call);
    }

    void dueOutOfRange(String what, Callable<?> call) {
        dueThrows(what, IllegalArgumentException.class, call);
    }

    void dueTooMany(String what, Callable<?> call) {
        dueThrows(what, UnsupportedOperationException.class, call);
    }

    static String thrownBy(Callable<?> call) {
        try {
            call.call();
            return "nothing";
        } catch (Exception e) {
            return e.getClass().getSimpleName();
        }
    }

    void end() {
        endSentence();
        if (wrong != 0) {
            System.out.println(wrong + " of " + asked + " answers are not as due");
            System.exit(1);
        }
    }

    static int four(int a, int b, int c, int d) {
        return (a << 24) | (b << 16) | (c << 8) | d;
    }

    /** By fours, since an object is promised to answer 512 calls alone. */
    static void type(RuleDeck deck, String text) {
        for (int i = 0; i < text.length(); i += 4) {
            int packed = 0;
            for (int j = i; j < Math.min(i + 4, text.length()); j++) {
                packed = packed << 8 | text.charAt(j);
            }
            if (!deck.units(packed)) {
                throw new IllegalStateException("the tape does not take " + text);
            }
        }
    }

    static int read(RuleDeck deck, String text) {
        type(deck, text);
        return deck.read();
    }

    /** A deck with so many layers and cells, and no rules. */
    static RuleDeck deck(int layers, int cells) {
        RuleDeck deck = new RuleDeck(layers);
        for (int i = 0; i < cells; i++) {
            deck.cell();
        }
        return deck;
    }

    /** A deck with so many layers and cells, and the rules of a text. */
    static RuleDeck deck(int layers, int cells, String text) {
        RuleDeck deck = deck(layers, cells);
        if (read(deck, text) < 0) {
            throw new IllegalStateException("no rules: " + text);
        }
        return deck;
    }

    /** A polygon with corners x, y, x, y, ...; all of them must be taken. */
    static int polygon(RuleDeck deck, int cell, int layer, long... corners) {
        int polygon = deck.polygon(cell, layer);
        for (int i = 0; i < corners.length; i += 2) {
            if (!deck.corner(polygon, corners[i], corners[i + 1])) {
                throw new IllegalStateException("a corner was not taken");
            }
        }
        return polygon;
    }

    static int box(RuleDeck deck, int cell, int layer, long x0, long y0, long x1, long y1) {
        return polygon(deck, cell, layer, x0, y0, x1, y0, x1, y1, x0, y1);
    }

    /** Violation k as "x0 y0 x1 y1 first second measure @cell". */
    static String told(RuleDeck deck, int k) {
        StringBuilder text = new StringBuilder();
        for (int what = 0; what <= 6; what++) {
            text.append(deck.violation(k, what)).append(' ');
        }
        return text.append('@').append(deck.cellOf(k)).toString();
    }

    /** All violations of a run, parted by commas. */
    static String run(RuleDeck deck, int rule, int cell, boolean flat) {
        int size = deck.run(rule, cell, flat);
        StringBuilder text = new StringBuilder();
        for (int k = 0; k < size; k++) {
            text.append(k == 0 ? "" : ", ").append(told(deck, k));
        }
        return text.toString();
    }

    /** What one rule, read in place of those before, tells of cell 0, flat and by cells. */
    void dueTold(RuleDeck deck, String rule, String want) {
        due("read " + rule, read(deck, "r=" + rule + ";"), 1);
        due(rule + " flat", run(deck, 0, 0, true), want);
        due(rule + " by cells", run(deck, 0, 0, false), want);
    }

    /** All that can be asked of a deck without a change: what a refused call must leave as it is. */
    static String state(RuleDeck deck, int cells) {
        StringBuilder text = new StringBuilder();
        for (int what = 0; what <= 4; what++) {
            text.append(deck.count(what)).append(' ');
        }
        for (int cell = 0; cell < cells; cell++) {
            text.append(occurrences(deck, cell)).append(' ');
        }
        for (int k = 0; k < deck.count(2) && k < 5; k++) {
            text.append(told(deck, k)).append(' ');
        }
        return text.append(thrownBy(() -> deck.changed(0, 0, 9, 9))).toString();
    }

    private static String occurrences(RuleDeck deck, int cell) {
        try {
            return String.valueOf(deck.occurrences(cell));
        } catch (UnsupportedOperationException e) {
            return "too many";
        }
    }
}
