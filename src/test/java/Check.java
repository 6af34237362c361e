import java.util.concurrent.Callable;

/** Counts answers that are not as due, and says short words for long calls. */
final class Check {
    private int wrong = 0;
    private int asked = 0;

    void due(String what, long got, long want) {
        asked++;
        if (got != want) {
            wrong++;
            System.out.println(what + " answered " + got + ", due is " + want);
        }
    }

    void due(String what, boolean got, boolean want) {
        due(what, got ? 1 : 0, want ? 1 : 0);
    }

    void due(String what, String got, String want) {
        asked++;
        if (!got.equals(want)) {
            wrong++;
            System.out.println(what + " answered " + got + ", due is " + want);
        }
    }

    /** Exactly this class must be thrown: a subclass would be an exception that came by itself. */
    void dueThrows(String what, Class<? extends RuntimeException> want, Callable<?> call) {
        due(what, thrownBy(call), want.getSimpleName());
    }

    static String thrownBy(Callable<?> call) {
        try {
            call.call();
            return "nothing";
        } catch (Exception e) {
            return e.getClass().getSimpleName();
        }
    }

    void end() {
        if (wrong != 0) {
            System.out.println(wrong + " of " + asked + " answers are not as due");
            System.exit(1);
        }
    }

    static void type(RuleDeck deck, String text) {
        for (int i = 0; i < text.length(); i++) {
            if (!deck.unit(text.charAt(i))) {
                throw new IllegalStateException("the tape does not take " + text);
            }
        }
    }

    static int read(RuleDeck deck, String text) {
        type(deck, text);
        return deck.read();
    }

    /** A deck with so many layers and cells, and the rules of a text. */
    static RuleDeck deck(int layers, int cells, String text) {
        RuleDeck deck = new RuleDeck(layers);
        for (int i = 0; i < cells; i++) {
            deck.cell();
        }
        if (read(deck, text) < 0) {
            throw new IllegalStateException("no rules: " + text);
        }
        return deck;
    }

    /** A polygon with corners x, y, x, y, ...; all of them must be taken. */
    static int polygon(RuleDeck deck, int cell, int layer, long... corners) {
        int polygon = deck.polygon(cell, layer);
        for (int i = 0; i < corners.length; i += 2) {
            if (!deck.corner(polygon, corners[i], corners[i + 1])) {
                throw new IllegalStateException("a corner was not taken");
            }
        }
        return polygon;
    }

    static int box(RuleDeck deck, int cell, int layer, long x0, long y0, long x1, long y1) {
        return polygon(deck, cell, layer, x0, y0, x1, y0, x1, y1, x0, y1);
    }

    /** Violation k as "x0 y0 x1 y1 first second measure @cell". */
    static String told(RuleDeck deck, int k) {
        StringBuilder text = new StringBuilder();
        for (int what = 0; what <= 6; what++) {
            text.append(deck.violation(k, what)).append(' ');
        }
        return text.append('@').append(deck.cellOf(k)).toString();
    }

    /** All violations of a run, parted by commas. */
    static String run(RuleDeck deck, int rule, int cell, boolean flat) {
        int size = deck.run(rule, cell, flat);
        StringBuilder text = new StringBuilder();
        for (int k = 0; k < size; k++) {
            text.append(k == 0 ? "" : ", ").append(told(deck, k));
        }
        return text.toString();
    }
}
