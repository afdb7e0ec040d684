/** Promises 8 and 9: thing, asked. */
public final class ThingsTest {
    private static final Check CHECK = new Check("ThingsTest");

    public static void main(String[] args) {
        thingIsItsFirstAsk();
        thingThatIsClosed();
        askedInOrder();
        CHECK.finish();
    }

    private static void all(String when, TownAsks x, int t, int... want) {
        for (int what = 0; what < want.length; what++) {
            CHECK.due(when + ": thing(" + t + ", " + what + ")", x.thing(t, what), want[what]);
        }
    }

    private static void thingIsItsFirstAsk() {
        TownAsks x = new TownAsks();
        x.ask(1, 9, 9, 0, 0);
        x.ask(4, 20, 6, 3, 5);
        x.ask(4, 21, 7, 2, 8);
        all("two asks", x, 1, 4, 20, 6, 5, 2, 1, 0, -1, 0);
        all("one ask", x, 0, 1, 9, 9, 0, 1, 1, 0, -1, 0);
        CHECK.due("what 9", x.thing(0, 9), Check.BEYOND);
        CHECK.due("what -1", x.thing(0, -1), Check.BEYOND);
        CHECK.due("thing 2", x.thing(2, 0), Check.BEYOND);
        CHECK.due("thing -1", x.thing(-1, 0), Check.BEYOND);
    }

    private static void thingThatIsClosed() {
        TownAsks x = new TownAsks();
        Check.useText(x, "a029;");
        x.ask(3, 1, 2, 0, 5);
        x.close(0, 9);
        all("closed", x, 0, 3, 1, 2, 5, 1, 0, 1, 9, 0);
        x.look(0, false);
        all("false", x, 0, 3, 1, 2, 5, 1, 1, 1, 9, 0);
        x.close(0, 6);
        all("closed anew", x, 0, 3, 1, 2, 5, 1, 0, 2, 6, 0);
        x.look(0, true);
        all("true", x, 0, 3, 1, 2, 5, 1, 0, 2, 6, 1);
    }

    private static void askedInOrder() {
        TownAsks x = new TownAsks();
        x.ask(1, 5, 5, 0, 0);
        x.ask(2, 5, 5, 0, 0);
        x.ask(1, 5, 6, 0, 0);
        x.ask(2, 5, 5, 0, 0);
        x.ask(2, 5, 4, 0, 0);
        int[][] want = {{0, 2, -1, -1}, {1, 3, 4, -1}};
        for (int t = 0; t < 2; t++) {
            for (int i = 0; i < 4; i++) {
                CHECK.due("asked(" + t + ", " + i + ")", x.asked(t, i), want[t][i]);
            }
        }
        CHECK.due("far behind", x.asked(0, Integer.MAX_VALUE), -1);
        CHECK.due("-1 is no finding", x.told(7), 0);
        CHECK.due("i -1", x.asked(0, -1), Check.BEYOND);
        CHECK.due("thing 2", x.asked(2, 0), Check.BEYOND);
        CHECK.due("thing -1", x.asked(-1, 0), Check.BEYOND);
        CHECK.due("findings", x.told(7), 3);
    }
}
