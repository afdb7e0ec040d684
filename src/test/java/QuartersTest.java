/** Promises 20 and 21: walk, quarter. */
public final class QuartersTest {
    private static final Check CHECK = new Check("QuartersTest");

    public static void main(String[] args) {
        walkEdges();
        shares();
        thingsAndAsks();
        quarterEdges();
        CHECK.finish();
    }

    private static void walkEdges() {
        TownAsks x = new TownAsks();
        int[][] wrong = {
            {-1, 5, 5}, {4, 5, 5}, {0, -1, 0}, {0, -1, -1}, {0, 1001, 5}, {0, 5, 6}, {0, 5, -1},
        };
        for (int[] w : wrong) {
            CHECK.due("walk beyond", x.walk(w[0], w[1], w[2]), Check.BEYOND);
        }
        CHECK.due("nothing came of it", x.quarter(0, 3), 100);
        CHECK.due("most", x.walk(3, 1000, 1000), 1);
        CHECK.due("none", x.walk(0, 0, 0), 1);
    }

    private static void shares() {
        TownAsks x = new TownAsks();
        x.marks(2, 0, 0);
        for (int i = 0; i < 7; i++) {
            x.ask(2, 20, i, 0, 0);
        }
        share(x, 3, 1, 33, 700 / 33);
        share(x, 3, 2, 66, 700 / 66);
        share(x, 1000, 999, 99, 700 / 99);
        share(x, 1000, 10, 1, 700);
        share(x, 1000, 9, 0, Check.NONE);
        share(x, 5, 0, 0, Check.NONE);
        share(x, 5, 5, 100, 7);
        share(x, 0, 0, 100, 7);
        CHECK.due("another quarter", x.quarter(0, 3), 100);
        CHECK.due("another quarter", x.quarter(0, 4), 0);
        CHECK.due("NONE was counted", x.told(7), 2);
    }

    private static void share(TownAsks x, int seen, int asked, int share, int things) {
        CHECK.due("walk", x.walk(1, seen, asked), 1);
        CHECK.due(asked + " of " + seen, x.quarter(1, 3), share);
        CHECK.due("things by " + asked + " of " + seen, x.quarter(1, 4), things);
    }

    private static void thingsAndAsks() {
        TownAsks x = new TownAsks();
        Check.useText(x, "a011;");
        for (int quarter = 0; quarter < 4; quarter++) {
            x.walk(quarter, 4, 1);
        }
        x.ask(1, 15, 15, 0, 0);
        x.ask(1, 16, 15, 0, 0);
        x.ask(1, 15, 16, 0, 0);
        x.ask(2, 16, 16, 0, 0);
        x.ask(3, 31, 31, 0, 0);
        int[][] first = {{1, 1, 0}, {0, 1, 0}, {0, 1, 0}, {2, 2, 0}};
        rows("open", x, first);
        x.close(4 - 2, 0);
        x.close(0, 0);
        int[][] closed = {{1, 1, 1}, {0, 1, 0}, {0, 1, 0}, {2, 2, 1}};
        rows("closed", x, closed);
        x.look(0, true);
        x.look(2, false);
        int[][] looked = {{1, 1, 1}, {0, 1, 0}, {0, 1, 0}, {2, 2, 0}};
        rows("looked at", x, looked);
    }

    private static void rows(String when, TownAsks x, int[][] want) {
        for (int quarter = 0; quarter < 4; quarter++) {
            for (int what = 0; what < 3; what++) {
                CHECK.due(when + ": quarter(" + quarter + ", " + what + ")",
                        x.quarter(quarter, what), want[quarter][what]);
            }
        }
    }

    private static void quarterEdges() {
        TownAsks x = new TownAsks();
        CHECK.due("quarter -1", x.quarter(-1, 0), Check.BEYOND);
        CHECK.due("quarter 4", x.quarter(4, 0), Check.BEYOND);
        CHECK.due("what -1", x.quarter(0, -1), Check.BEYOND);
        CHECK.due("what 5", x.quarter(0, 5), Check.BEYOND);
        CHECK.due("counted", x.told(7), 4);
    }
}
