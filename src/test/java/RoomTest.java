import java.lang.management.ManagementFactory;
import java.lang.reflect.Array;
import java.lang.reflect.Field;
import java.lang.reflect.Modifier;
import java.util.ArrayDeque;
import java.util.Collections;
import java.util.Deque;
import java.util.IdentityHashMap;
import java.util.Set;

/** What an object makes is made once: 512 calls of the dearest kinds stay far inside one room. */
public final class RoomTest {
    private static final int MOST_OBJECTS = 600_000;
    private static final int MOST_ELEMENTS = 7_300_000;
    private static final int SHARE = 20;

    public static void main(String[] args) throws IllegalAccessException {
        Check check = new Check();
        RuleDeck deck = dearest();
        com.sun.management.ThreadMXBean meter = (com.sun.management.ThreadMXBean) ManagementFactory.getThreadMXBean();
        long told = work(deck);
        long before = meter.getCurrentThreadAllocatedBytes();
        told += work(deck);
        long made = meter.getCurrentThreadAllocatedBytes() - before;
        check.due("violations were told", told > 40_000, true);
        check.due("calls make next to nothing (" + made + " bytes)", made < 20_000, true);
        long[] size = measure(deck);
        check.due("objects kept (" + size[0] + ")", size[0] < MOST_OBJECTS / SHARE, true);
        check.due("fields and elements kept (" + size[1] + ")", size[1] < MOST_ELEMENTS / SHARE, true);
        check.end();
    }

    /** 100 occurrences of 16 corners, as many in each other as the limits allow. */
    private static RuleDeck dearest() {
        RuleDeck deck = Check.deck(1, 3, "a=space 0 0<9;b=corner 0 0<4;c=enclose 0 0<1;d=overlap 0 0<2;e=edge 0<2;f=density 0<9;");
        long[] comb = {0, 0, 7, 0, 7, 1, 6, 1, 6, 2, 5, 2, 5, 3, 4, 3, 4, 4, 3, 4, 3, 5, 2, 5, 2, 6, 1, 6, 1, 7, 0, 7};
        Check.polygon(deck, 0, 0, comb);
        for (int i = 0; i < 10; i++) {
            deck.place(1, 0, 8 * i, 0, i % 8);
            deck.place(2, 1, 3, 100 * i, i % 8);
        }
        if (deck.occurrences(2) != 100) {
            throw new IllegalStateException("not the dearest one");
        }
        return deck;
    }

    private static long work(RuleDeck deck) {
        long told = 0;
        for (int i = 0; i < 200; i++) {
            try {
                told += deck.run(i % 6, 2, i % 4 < 2);
            } catch (UnsupportedOperationException e) {
                told += 0;
            }
        }
        told += deck.run(4, 2, true);
        for (int i = 0; i < 60; i++) {
            told += deck.same(4, 2) ? 1 : 0;
            told += deck.read() + deck.changed(0, 0, 99, 99) + deck.occurrences(2);
        }
        return told;
    }

    private static long[] measure(Object root) throws IllegalAccessException {
        Set<Object> seen = Collections.newSetFromMap(new IdentityHashMap<>());
        Deque<Object> open = new ArrayDeque<>();
        open.add(root);
        long elements = 0;
        while (!open.isEmpty()) {
            Object next = open.remove();
            boolean own = next.getClass().isArray() || next.getClass().getName().startsWith("RuleDeck");
            if (!own || !seen.add(next)) {
                continue;
            }
            elements += next.getClass().isArray() ? addElements(next, open) : addFields(next, open);
        }
        return new long[] {seen.size(), elements};
    }

    private static int addElements(Object array, Deque<Object> open) {
        if (!array.getClass().getComponentType().isPrimitive()) {
            for (int i = 0; i < Array.getLength(array); i++) {
                if (Array.get(array, i) != null) {
                    open.add(Array.get(array, i));
                }
            }
        }
        return Array.getLength(array);
    }

    private static int addFields(Object object, Deque<Object> open) throws IllegalAccessException {
        int fields = 0;
        for (Field field : object.getClass().getDeclaredFields()) {
            if (!Modifier.isStatic(field.getModifiers())) {
                field.setAccessible(true);
                fields++;
                if (!field.getType().isPrimitive() && field.get(object) != null) {
                    open.add(field.get(object));
                }
            }
        }
        return fields;
    }
}
