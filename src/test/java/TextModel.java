import java.util.ArrayList;
import java.util.HashMap;
import java.util.HashSet;
import java.util.List;
import java.util.Map;
import java.util.Set;
import java.util.regex.Matcher;
import java.util.regex.Pattern;

/** Reads one text after the document's words: what read() is due to answer, and which kinds its rules have. */
final class TextModel {
    private static final Pattern WORD = Pattern.compile("[a-z]+|[0-9]+|[^ \n]");
    private static final String NAME = "[a-z]{1,8}";
    private static final String NUMBER = "[0-9]{1,9}";
    private static final String ONE_LAYER = "width|notch|area|edge|corners|density|count";
    private static final String TWO_LAYERS = "space|corner|enclose|overlap";
    private static final Map<String, String> KINDS_OF_CONDITIONS = Map.of(
            "run", "width|notch|space|enclose|overlap", "volt", "space|corner", "end", "space");

    final Set<String> kinds = new HashSet<>();
    private final List<String> words = new ArrayList<>();
    private final Map<String, Integer> ruleOfName = new HashMap<>();
    private final int layers;
    private int next = 0;

    TextModel(String text, int layers) {
        this.layers = layers;
        for (Matcher matcher = WORD.matcher(text); matcher.find();) {
            words.add(matcher.group());
        }
    }

    int answer() {
        int rules = 0;
        do {
            if (rules == 20 || !takesRule(rules)) {
                return -1 - next;
            }
            rules++;
        } while (next < words.size());
        return rules;
    }

    private boolean takesRule(int number) {
        String name = word();
        if (!name.matches(NAME) || ruleOfName.putIfAbsent(name, number) != null) {
            return false;
        }
        next++;
        if (!takes("=")) {
            return false;
        }
        String kind = word();
        if (!takes(ONE_LAYER + "|" + TWO_LAYERS) || !takesLayer() || (kind.matches(TWO_LAYERS) && !takesLayer())) {
            return false;
        }
        kinds.add(kind);
        return takes("<") && takes(NUMBER) && takesConditions(kind);
    }

    /** No word can be empty, so that the end of the text matches nothing. */
    private String word() {
        return next < words.size() ? words.get(next) : "";
    }

    private boolean takes(String pattern) {
        boolean fits = word().matches(pattern);
        next += fits ? 1 : 0;
        return fits;
    }

    private boolean takesLayer() {
        return word().matches(NUMBER) && Integer.parseInt(word()) < layers && takes(NUMBER);
    }

    private boolean takesConditions(String kind) {
        Set<String> taken = new HashSet<>();
        while (!takes(";")) {
            String kinds = KINDS_OF_CONDITIONS.get(word());
            if (kinds == null || !kind.matches(kinds) || !taken.add(word())) {
                return false;
            }
            next++;
            if (!takes(NUMBER)) {
                return false;
            }
        }
        return true;
    }
}
