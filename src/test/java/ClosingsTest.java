/** Promises 17 to 19: close, look, closings. */
public final class ClosingsTest {
    private static final Check CHECK = new Check("ClosingsTest");

    public static void main(String[] args) {
        closeEdges();
        closeOrderOfFindings();
        lookOnce();
        countsOfADesk();
        deskAtTheClosing();
        closingsEdges();
        CHECK.finish();
    }

    private static TownAsks two(String text) {
        TownAsks x = new TownAsks();
        Check.useText(x, text);
        x.ask(1, 0, 0, 0, 10);
        x.ask(2, 0, 0, 0, 10);
        return x;
    }

    private static void closeEdges() {
        TownAsks x = two("a031;");
        CHECK.due("thing -1", x.close(-1, 10), Check.BEYOND);
        CHECK.due("thing 2", x.close(2, 10), Check.BEYOND);
        CHECK.due("day -1", x.close(0, -1), Check.BEYOND);
        CHECK.due("day 1000", x.close(0, 1000), Check.BEYOND);
        CHECK.due("ahead of its day", x.close(0, 9), Check.STATE);
        CHECK.due("open things", x.told(2), 2);
        CHECK.due("its day", x.close(0, 10), 3);
        CHECK.due("open things", x.told(2), 1);
        CHECK.due("not open", x.close(0, 11), Check.STATE);
        CHECK.due("the last day", x.close(1, 999), 3);
        CHECK.due("closed on", x.thing(1, 7), 999);
        CHECK.due("asks go on by their own days", x.ask(1, 0, 0, 0, 10), 2);
        CHECK.due("closings", x.told(5), 2);
    }

    private static void closeOrderOfFindings() {
        TownAsks x = two("a101;s001;s100;");
        CHECK.due("ring", x.close(0, 10), Check.RING);
        CHECK.due("nobody's", x.close(1, 10), Check.NONE);
        CHECK.due("STATE ahead of RING", x.close(0, 9), Check.STATE);
        CHECK.due("STATE ahead of NONE", x.close(1, 9), Check.STATE);
        CHECK.due("BEYOND ahead of STATE", x.close(1, -1), Check.BEYOND);
        CHECK.due("still open", x.told(2), 2);
        CHECK.due("no closing", x.told(5), 0);
        Check.useText(x, "a101;");
        x.close(0, 10);
        Check.useText(x, "");
        CHECK.due("closed: STATE ahead of NONE", x.close(0, 10), Check.STATE);
    }

    private static void lookOnce() {
        TownAsks x = two("a021;");
        CHECK.due("thing -1", x.look(-1, true), Check.BEYOND);
        CHECK.due("thing 2", x.look(2, false), Check.BEYOND);
        CHECK.due("open", x.look(0, true), Check.STATE);
        CHECK.due("open", x.look(0, false), Check.STATE);
        x.close(0, 10);
        CHECK.due("true", x.look(0, true), 1);
        CHECK.due("once", x.look(0, true), Check.STATE);
        CHECK.due("once", x.look(0, false), Check.STATE);
        CHECK.due("stays closed", x.thing(0, 5), 0);
        CHECK.due("close", x.close(0, 10), Check.STATE);
        x.close(1, 10);
        CHECK.due("false", x.look(1, false), 1);
        CHECK.due("open again", x.thing(1, 5), 1);
        CHECK.due("open", x.look(1, false), Check.STATE);
        CHECK.due("close anew", x.close(1, 10), 2);
        CHECK.due("look anew", x.look(1, false), 1);
        CHECK.due("how often", x.thing(1, 6), 2);
    }

    private static void counts(String when, TownAsks x, int desk, int... want) {
        for (int what = 0; what < 4; what++) {
            CHECK.due(when + ": closings(" + desk + ", " + what + ")", x.closings(desk, what), want[what]);
        }
    }

    private static void countsOfADesk() {
        TownAsks x = two("a021;");
        counts("at first", x, 2, 0, 0, 0, 0);
        x.close(0, 10);
        counts("one", x, 2, 1, 0, 0, 1);
        x.close(1, 10);
        counts("two", x, 2, 2, 0, 0, 2);
        x.look(0, false);
        counts("one was false", x, 2, 2, 1, 1, 2);
        x.close(0, 10);
        counts("closed anew", x, 2, 3, 1, 1, 3);
        x.look(1, true);
        counts("one was true", x, 2, 3, 2, 1, 2);
        x.look(0, false);
        counts("two were false", x, 2, 3, 3, 2, 2);
        counts("another desk", x, 1, 0, 0, 0, 0);
        CHECK.due("told(5)", x.told(5), 3);
    }

    private static void deskAtTheClosing() {
        TownAsks x = two("a021;");
        x.close(0, 10);
        Check.useText(x, "a051;");
        CHECK.due("whose now", x.whose(0), 5);
        x.look(0, false);
        counts("the desk that closed", x, 2, 1, 1, 1, 1);
        counts("the desk of now", x, 5, 0, 0, 0, 0);
        CHECK.due("close anew", x.close(0, 10), 5);
        counts("the desk of now", x, 5, 1, 0, 0, 1);
        Check.useText(x, "");
        CHECK.due("looked at though it is nobody's", x.look(0, false), 1);
        counts("counted", x, 5, 1, 1, 1, 1);
        CHECK.due("told(5)", x.told(5), 2);
    }

    private static void closingsEdges() {
        TownAsks x = new TownAsks();
        CHECK.due("desk -1", x.closings(-1, 0), Check.BEYOND);
        CHECK.due("desk 6", x.closings(6, 0), Check.BEYOND);
        CHECK.due("what -1", x.closings(0, -1), Check.BEYOND);
        CHECK.due("what 4", x.closings(0, 4), Check.BEYOND);
        CHECK.due("desk 5", x.closings(5, 3), 0);
    }
}
