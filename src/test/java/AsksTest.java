/** Promises 1 to 7: a new object, ask, marks, meet, of, as, fewest. */
public final class AsksTest {
    private static final Check CHECK = new Check("AsksTest");

    public static void main(String[] args) {
        newObject();
        askGoesToTheFirstThing();
        askEdges();
        askFull();
        closedThingsTakeNoAsk();
        marksAndMeet();
        marksAtFirst();
        meetDays();
        marksEdges();
        ofAnAsk();
        asOfAKind();
        fewestSets();
        fewestEdges();
        CHECK.finish();
    }

    private static void newObject() {
        TownAsks x = new TownAsks();
        for (int what = 0; what <= 7; what++) {
            CHECK.due("new told(" + what + ")", x.told(what), 0);
        }
        CHECK.due("new of(0, 0)", x.of(0, 0), Check.BEYOND);
        CHECK.due("new thing(0, 0)", x.thing(0, 0), Check.BEYOND);
        for (int s = 0; s < 4; s++) {
            CHECK.due("new write", x.write(s, 0, 1), Check.MISSING);
        }
        for (int kind = 0; kind < 5; kind++) {
            CHECK.due("new effort", x.effort(kind, 7), 4);
        }
        for (int quarter = 0; quarter < 4; quarter++) {
            CHECK.due("new quarter 3", x.quarter(quarter, 3), 100);
            CHECK.due("new quarter 4", x.quarter(quarter, 4), 0);
        }
        for (int desk = 0; desk < 6; desk++) {
            for (int what = 0; what < 4; what++) {
                CHECK.due("new closings", x.closings(desk, what), 0);
            }
        }
        CHECK.due("new fewest(0, 0)", x.fewest(0, 0), 0);
        CHECK.due("text of an empty tape", x.text(), 0);
    }

    private static void askGoesToTheFirstThing() {
        TownAsks x = new TownAsks();
        CHECK.due("first", x.ask(3, 10, 10, 0, 0), 0);
        CHECK.due("FAR 3 is above NEAR", x.ask(3, 12, 11, 0, 0), 1);
        CHECK.due("FAR 2 of both: the first", x.ask(3, 11, 10, 0, 0), 0);
        CHECK.due("not all of 0 meet", x.ask(3, 12, 10, 0, 31), 2);
        CHECK.due("doubt joins: 0 is too old", x.ask(3, 12, 10, 9, 31), 2);
        CHECK.due("other kind at the same place", x.ask(1, 12, 10, 9, 31), 3);
        CHECK.due("kind above", x.ask(0, 12, 10, 9, 31), 4);
        CHECK.due("asks", x.told(0), 7);
        CHECK.due("things", x.told(1), 5);
        CHECK.due("latest day", x.told(6), 31);
    }

    private static void askEdges() {
        TownAsks x = new TownAsks();
        int[][] wrong = {
            {-1, 0, 0, 0, 0}, {5, 0, 0, 0, 0}, {0, -1, 0, 0, 0}, {0, 32, 0, 0, 0},
            {0, 0, -1, 0, 0}, {0, 0, 32, 0, 0}, {0, 0, 0, -1, 0}, {0, 0, 0, 10, 0},
            {0, 0, 0, 0, -1}, {0, 0, 0, 0, 1000},
            {Integer.MIN_VALUE, 0, 0, 0, 0}, {Integer.MAX_VALUE, 0, 0, 0, 0},
            {0, 0, 0, 0, Integer.MAX_VALUE}, {0, Integer.MIN_VALUE, 0, 0, 0},
        };
        for (int[] w : wrong) {
            CHECK.due("ask beyond", x.ask(w[0], w[1], w[2], w[3], w[4]), Check.BEYOND);
        }
        CHECK.due("no ask came", x.told(0), 0);
        CHECK.due("day 0", x.ask(0, 0, 0, 0, 0), 0);
        CHECK.due("the last ones", x.ask(4, 31, 31, 9, 999), 1);
        CHECK.due("ahead of the latest", x.ask(4, 31, 31, 9, 998), Check.BEYOND);
        CHECK.due("the latest day itself", x.ask(4, 31, 31, 9, 999), 1);
    }

    private static void askFull() {
        TownAsks x = new TownAsks();
        x.marks(1, 0, 0);
        for (int i = 0; i < 40; i++) {
            CHECK.due("ask " + i, x.ask(1, i % 32, i / 32 * 20, 0, 3), i);
        }
        CHECK.due("40 things", x.told(1), 40);
        CHECK.due("40 open things", x.told(2), 40);
        CHECK.due("the last thing", x.thing(39, 1), 7);
        CHECK.due("its ask", x.asked(39, 0), 39);
        CHECK.due("in quarter 2", x.quarter(2, 0), 8);
        CHECK.due("40 asks", x.told(0), 40);
        CHECK.due("a 41st", x.ask(1, 0, 0, 0, 3), Check.FULL);
        CHECK.due("BEYOND is asked ahead of FULL", x.ask(1, 0, 0, 0, 2), Check.BEYOND);
        CHECK.due("still 40", x.told(0), 40);
    }

    private static void closedThingsTakeNoAsk() {
        TownAsks x = new TownAsks();
        Check.useText(x, "a019;");
        x.ask(1, 5, 5, 0, 0);
        CHECK.due("close", x.close(0, 0), 1);
        CHECK.due("ask at a closed thing", x.ask(1, 5, 5, 0, 1), 1);
        CHECK.due("look", x.look(0, false), 1);
        CHECK.due("ask at the thing that is open again", x.ask(1, 5, 5, 0, 1), 0);
    }

    private static void marksAndMeet() {
        TownAsks x = new TownAsks();
        x.ask(1, 0, 0, 1, 0);
        x.ask(1, 3, 1, 1, 0);
        x.ask(1, 0, 0, 1, 0);
        CHECK.due("FAR 4, NEAR 2 and doubts 2", x.meet(0, 1), 1);
        CHECK.due("one way and the other", x.meet(1, 0), 1);
        CHECK.due("marks", x.marks(1, 1, 30), 1);
        CHECK.due("NEAR 1 now", x.meet(0, 1), 0);
        CHECK.due("things stay", x.of(1, 5), 0);
        CHECK.due("marks of another kind", x.marks(0, 20, 30), 1);
        CHECK.due("count for that alone", x.meet(0, 1), 0);
        CHECK.due("by marks of now", x.ask(1, 0, 0, 0, 0), 1);
        CHECK.due("meet one", x.meet(1, 1), Check.BEYOND);
        CHECK.due("meet -1", x.meet(-1, 1), Check.BEYOND);
        CHECK.due("meet b -1", x.meet(1, -1), Check.BEYOND);
        CHECK.due("meet 4", x.meet(4, 1), Check.BEYOND);
        CHECK.due("meet b 4", x.meet(1, 4), Check.BEYOND);
        CHECK.due("meet the last", x.meet(3, 0), 1);
    }

    private static void marksAtFirst() {
        for (int kind = 0; kind < 5; kind++) {
            TownAsks x = new TownAsks();
            x.ask(kind, 8, 8, 0, 100);
            x.ask(kind, 9, 7, 0, 100);
            x.ask(kind, 10, 7, 0, 100);
            x.ask(kind, 8, 8, 0, 130);
            x.ask(kind, 8, 8, 0, 131);
            CHECK.due("kind " + kind + ": FAR 2", x.meet(0, 1), 1);
            CHECK.due("kind " + kind + ": FAR 3", x.meet(0, 2), 0);
            CHECK.due("kind " + kind + ": 30 days", x.meet(0, 3), 1);
            CHECK.due("kind " + kind + ": 31 days", x.meet(0, 4), 0);
        }
    }

    private static void meetDays() {
        TownAsks x = new TownAsks();
        x.ask(2, 0, 0, 0, 10);
        x.ask(2, 0, 0, 0, 40);
        x.ask(2, 0, 0, 0, 41);
        x.ask(4, 0, 0, 0, 41);
        CHECK.due("30 days", x.meet(0, 1), 1);
        CHECK.due("31 days", x.meet(0, 2), 0);
        CHECK.due("31 days, the later first", x.meet(2, 0), 0);
        CHECK.due("DARK and LAMP", x.meet(2, 3), 0);
        x.marks(2, 20, 99);
        x.marks(4, 20, 99);
        CHECK.due("APART 99", x.meet(2, 0), 1);
        CHECK.due("DARK and LAMP never", x.meet(2, 3), 0);
        x.marks(2, 0, 0);
        CHECK.due("APART 0", x.meet(1, 2), 0);
    }

    private static void marksEdges() {
        TownAsks x = new TownAsks();
        int[][] wrong = {{-1, 2, 2}, {5, 2, 2}, {0, -1, 2}, {0, 21, 2}, {0, 2, -1}, {0, 2, 100}};
        for (int[] w : wrong) {
            CHECK.due("marks beyond", x.marks(w[0], w[1], w[2]), Check.BEYOND);
        }
        CHECK.due("marks least", x.marks(0, 0, 0), 1);
        CHECK.due("marks most", x.marks(4, 20, 99), 1);
        x.ask(0, 5, 5, 0, 0);
        CHECK.due("NEAR 0 elsewhere", x.ask(0, 5, 6, 0, 0), 1);
        CHECK.due("NEAR 0 there", x.ask(0, 5, 5, 0, 0), 0);
        x.ask(4, 0, 0, 0, 0);
        CHECK.due("NEAR 20", x.ask(4, 10, 10, 0, 99), 2);
        CHECK.due("NEAR 20 is not 21", x.ask(4, 10, 11, 0, 99), 3);
        CHECK.due("BEYOND left the marks", x.told(7), 6);
    }

    private static void ofAnAsk() {
        TownAsks x = new TownAsks();
        x.ask(1, 0, 0, 0, 7);
        x.ask(4, 17, 3, 5, 8);
        int[] want = {4, 17, 3, 5, 8, 1, 1};
        for (int what = 0; what < want.length; what++) {
            CHECK.due("of(1, " + what + ")", x.of(1, what), want[what]);
        }
        CHECK.due("what 7", x.of(1, 7), Check.BEYOND);
        CHECK.due("what -1", x.of(1, -1), Check.BEYOND);
        CHECK.due("ask 2", x.of(2, 0), Check.BEYOND);
        CHECK.due("ask -1", x.of(-1, 0), Check.BEYOND);
        int[][] places = {{15, 15, 0}, {16, 15, 1}, {15, 16, 2}, {16, 16, 3}};
        for (int i = 0; i < places.length; i++) {
            x.ask(0, places[i][0], places[i][1], 0, 8);
            CHECK.due("quarter of an ask", x.of(2 + i, 6), places[i][2]);
        }
    }

    private static void asOfAKind() {
        TownAsks x = new TownAsks();
        for (int kind = 0; kind < 5; kind++) {
            x.ask(kind, 0, 0, 0, 0);
        }
        boolean[][] under = {
            {true, false, false, false, false}, {true, true, false, false, false},
            {true, false, true, false, false}, {true, false, false, true, false},
            {true, false, true, false, true},
        };
        for (int ask = 0; ask < 5; ask++) {
            for (int kind = 0; kind < 5; kind++) {
                int want = under[ask][kind] ? ask : Check.KIND;
                CHECK.due("as(" + ask + ", " + kind + ")", x.as(ask, kind), want);
            }
        }
        CHECK.due("no such ask", x.as(5, 0), Check.BEYOND);
        CHECK.due("ask -1", x.as(-1, 0), Check.BEYOND);
        CHECK.due("no such kind", x.as(0, 5), Check.BEYOND);
        CHECK.due("kind -1", x.as(0, -1), Check.BEYOND);
    }

    private static void fewestSets() {
        TownAsks x = new TownAsks();
        // A row of six where each meets but the next one: pairs are the most that fits.
        for (int i = 0; i < 6; i++) {
            x.ask(1, 2 * i, 0, 0, 0);
        }
        CHECK.due("a row of six", x.fewest(0, 6), 3);
        CHECK.due("a row of five", x.fewest(1, 5), 3);
        CHECK.due("one", x.fewest(5, 1), 1);
        // Taken in this order, the first that fits would part them into three.
        TownAsks y = new TownAsks();
        y.ask(1, 2, 0, 0, 0);
        y.ask(1, 4, 0, 0, 0);
        y.ask(1, 0, 0, 0, 0);
        y.ask(1, 6, 0, 0, 0);
        CHECK.due("things by first come", y.told(1), 3);
        CHECK.due("fewest is not by first come", y.fewest(0, 4), 2);
        y.marks(1, 6, 0);
        CHECK.due("by marks of now", y.fewest(0, 4), 1);
        y.marks(1, 1, 0);
        CHECK.due("by lesser marks", y.fewest(0, 4), 4);
        // Both others meet the first one, but not each other.
        TownAsks z = new TownAsks();
        z.ask(1, 2, 0, 0, 0);
        z.ask(1, 0, 0, 0, 0);
        z.ask(1, 4, 0, 0, 0);
        CHECK.due("any two of a set meet", z.fewest(0, 3), 2);
    }

    private static void fewestEdges() {
        TownAsks x = new TownAsks();
        for (int i = 0; i < 14; i++) {
            x.ask(2, i % 2 * 20, 0, 0, 0);
        }
        CHECK.due("12", x.fewest(0, 12), 2);
        CHECK.due("the last 12", x.fewest(2, 12), 2);
        CHECK.due("13", x.fewest(0, 13), Check.LARGE);
        CHECK.due("14", x.fewest(0, 14), Check.LARGE);
        CHECK.due("15: there are not so many", x.fewest(0, 15), Check.BEYOND);
        CHECK.due("BEYOND is asked ahead of LARGE", x.fewest(3, 12), Check.BEYOND);
        CHECK.due("from -1", x.fewest(-1, 2), Check.BEYOND);
        CHECK.due("n -1", x.fewest(0, -1), Check.BEYOND);
        CHECK.due("none at the end", x.fewest(14, 0), 0);
        CHECK.due("none behind the end", x.fewest(15, 0), Check.BEYOND);
        CHECK.due("wide", x.fewest(Integer.MAX_VALUE, Integer.MAX_VALUE), Check.BEYOND);
        CHECK.due("wide n", x.fewest(1, Integer.MAX_VALUE), Check.BEYOND);
    }
}
