import java.util.ArrayList;
import java.util.List;
import java.util.Random;

/** Terms 2 and promise 4 on texts made at random, from fixed seeds, against a second reading of them. */
public final class TextModelTest {
    private static final String[] KINDS = {"width", "notch", "area", "edge", "corners", "density", "count",
        "space", "corner", "enclose", "overlap"};
    private static final String[] CONDITIONS = {"run", "volt", "end"};
    private static final String[] OTHERS = {"=", "<", ";", "?", "A", ">", "abcdefgh", "abcdefghi", "123456789", "1234567890",
        "run", "volt", "end", "area", "space", "corner", "corners", "a", "b", "x", "0", "2", "3", "007", "000000000", "0000000001"};
    /** Each takes up to 150 calls to write and a few to ask, and an object is promised to answer 512. */
    private static final int TEXTS = 3;
    private static final int LONGEST = 600;

    private final Random random;
    private final Check check;
    private final int layers;
    private static int right = 0;
    private static int wrong = 0;

    private TextModelTest(long seed, Check check) {
        random = new Random(seed);
        this.check = check;
        layers = 1 + random.nextInt(4);
    }

    public static void main(String[] args) {
        Check check = new Check();
        int seeds = args.length > 1 ? Integer.parseInt(args[1]) : 5000;
        for (int seed = 0; seed < seeds; seed++) {
            new TextModelTest(seed, check).play();
        }
        check.due("right texts were read", right > seeds / 4, true);
        check.due("wrong texts were read", wrong > seeds / 4, true);
        check.end();
    }

    private void play() {
        RuleDeck deck = new RuleDeck(layers);
        int rules = 0;
        int kinds = 0;
        for (int i = 0; i < TEXTS; i++) {
            List<String> words = rightWords();
            for (int changes = random.nextInt(3); changes > 0; changes--) {
                change(words);
            }
            String text = written(words);
            TextModel model = new TextModel(text, layers);
            int due = model.answer();
            check.due("read '" + text + "' with " + layers + " layers", Check.read(deck, text), due);
            if (due >= 0) {
                rules = due;
                kinds = model.kinds.size();
            }
            check.due("rules behind '" + text + "'", deck.count(0), rules);
            check.due("kinds behind '" + text + "'", deck.count(1), kinds);
            check.due("tape behind '" + text + "'", deck.count(4), 0);
            right += due >= 0 ? 1 : 0;
            wrong += due >= 0 ? 0 : 1;
        }
    }

    private List<String> rightWords() {
        List<String> words = new ArrayList<>();
        int rules = random.nextInt(3) == 0 ? 19 + random.nextInt(3) : 1 + random.nextInt(6);
        for (int i = 0; i < rules; i++) {
            String kind = KINDS[random.nextInt(KINDS.length)];
            words.addAll(List.of(String.valueOf((char) ('a' + i)), "=", kind, layer()));
            boolean two = List.of("space", "corner", "enclose", "overlap").contains(kind);
            if (two) {
                words.add(layer());
            }
            words.addAll(List.of("<", String.valueOf(random.nextInt(100))));
            if (rules < 10) {
                addConditions(words);
            }
            words.add(";");
        }
        return words;
    }

    private String layer() {
        return String.valueOf(random.nextInt(layers));
    }

    /** Few, since most kinds take none or one of them. */
    private void addConditions(List<String> words) {
        for (int many = random.nextInt(6) - 3; many > 0; many--) {
            words.add(CONDITIONS[random.nextInt(CONDITIONS.length)]);
            words.add(String.valueOf(random.nextInt(10)));
        }
    }

    private void change(List<String> words) {
        int at = random.nextInt(words.size());
        String other = OTHERS[random.nextInt(OTHERS.length)];
        switch (random.nextInt(5)) {
            case 0 -> words.add(at, other);
            case 1 -> words.set(at, other);
            case 2 -> words.set(at, words.get(random.nextInt(words.size())));
            case 3 -> words.subList(at + 1, words.size()).clear();
            default -> {
                if (words.size() > 1) {
                    words.remove(at);
                }
            }
        }
    }

    /** Blanks where two rows would be one, now and then elsewhere, and seldom left out where they are needed. */
    private String written(List<String> words) {
        StringBuilder text = new StringBuilder();
        for (String word : words) {
            int last = text.length() == 0 ? ' ' : text.charAt(text.length() - 1);
            int first = word.charAt(0);
            boolean joins = (Character.isLetter(last) && Character.isLetter(first)) || (Character.isDigit(last) && Character.isDigit(first));
            if (joins ? random.nextInt(200) > 0 : random.nextInt(12) == 0) {
                text.append(random.nextBoolean() ? ' ' : '\n');
            }
            text.append(word);
        }
        return text.substring(0, Math.min(text.length(), LONGEST));
    }
}
