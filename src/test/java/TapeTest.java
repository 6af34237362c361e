/** Promises 2 and 3: characters come on the tape one by one or four at a time. */
public final class TapeTest {
    public static void main(String[] args) {
        Check check = new Check();
        takesItsCharactersAlone(check);
        takesFourOrNone(check);
        hasRoomForSixHundred(check);
        check.end();
    }

    private static void takesItsCharactersAlone(Check check) {
        RuleDeck deck = new RuleDeck(1);
        int taken = 0;
        for (int u = -300; u <= 400; u++) {
            boolean due = u == 10 || (u >= 32 && u <= 126);
            check.due("unit(" + u + ")", deck.unit(u), due);
            taken += due ? 1 : 0;
            check.due("count(4) behind unit(" + u + ")", deck.count(4), taken);
        }
        check.due("unit(MIN)", deck.unit(Integer.MIN_VALUE), false);
        check.due("unit(MAX)", deck.unit(Integer.MAX_VALUE), false);
        check.due("unit('a' + 256)", deck.unit('a' + 256), false);
    }

    private static int four(int a, int b, int c, int d) {
        return (a << 24) | (b << 16) | (c << 8) | d;
    }

    private static void takesFourOrNone(Check check) {
        RuleDeck deck = new RuleDeck(1);
        check.due("units of none", deck.units(0), true);
        check.due("count(4)", deck.count(4), 0);
        check.due("units with 0s between", deck.units(four(0, 'a', 0, '=')), true);
        check.due("count(4)", deck.count(4), 2);
        int[] wrong = {1, 9, 11, 31, 127, 128, 200, 255};
        for (int u : wrong) {
            check.due("units with first " + u, deck.units(four(u, 'a', 'b', 'c')), false);
            check.due("units with second " + u, deck.units(four('a', u, 'b', 'c')), false);
            check.due("units with third " + u, deck.units(four('a', 'b', u, 'c')), false);
            check.due("units with last " + u, deck.units(four('a', 'b', 'c', u)), false);
            check.due("count(4)", deck.count(4), 2);
        }
        check.due("the highest byte first", deck.units(four('c', 'o', 'u', 'n')), true);
        check.due("the rest", deck.units(four('t', 10, '0', '<')) && deck.units(four('1', ';', 0, 0)), true);
        check.due("read()", deck.read(), 1);
        check.due("count(4) behind read()", deck.count(4), 0);
    }

    private static void hasRoomForSixHundred(Check check) {
        RuleDeck deck = new RuleDeck(1);
        for (int i = 0; i < 149; i++) {
            deck.units(four(' ', ' ', ' ', ' '));
        }
        deck.units(four(' ', 0, 0, 0));
        check.due("count(4)", deck.count(4), 597);
        check.due("units of four with room for three", deck.units(four(' ', ' ', ' ', ' ')), false);
        check.due("none came", deck.count(4), 597);
        check.due("units of three with room for three", deck.units(four(' ', 0, ' ', ' ')), true);
        check.due("count(4)", deck.count(4), 600);
        check.due("unit without room", deck.unit(' '), false);
        check.due("units without room", deck.units(four(0, 0, 0, ' ')), false);
        check.due("units of none without room", deck.units(0), true);
        check.due("count(4)", deck.count(4), 600);
        check.due("blanks are no words", deck.read(), -1);
        for (int i = 0; i < 600; i++) {
            check.due("room again for " + i, deck.unit(' '), true);
        }
        check.due("no more", deck.unit(' '), false);
    }
}
