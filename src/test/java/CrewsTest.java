/** Promises 15 and 16: effort, order. */
public final class CrewsTest {
    private static final Check CHECK = new Check("CrewsTest");

    public static void main(String[] args) {
        effortOfAKind();
        hoursAndDays();
        fewestBreaksGoAhead();
        lesserThingsGoAhead();
        closedAndNobodys();
        ringHasAPromise();
        edges();
        sixThings();
        CHECK.finish();
    }

    private static void effortOfAKind() {
        TownAsks x = new TownAsks();
        CHECK.due("at first", x.effort(2, 9), 4);
        CHECK.due("then", x.effort(2, 40), 9);
        CHECK.due("under it: of itself", x.effort(4, 1), 4);
        CHECK.due("not of that under it", x.effort(2, 1), 40);
        CHECK.due("hours 0", x.effort(2, 0), Check.BEYOND);
        CHECK.due("hours 41", x.effort(2, 41), Check.BEYOND);
        CHECK.due("kind -1", x.effort(-1, 4), Check.BEYOND);
        CHECK.due("kind 5", x.effort(5, 4), Check.BEYOND);
        CHECK.due("stays", x.effort(2, 2), 1);
        x.ask(4, 0, 0, 0, 0);
        x.effort(4, 3);
        x.effort(2, 30);
        CHECK.due("hours of the thing's own kind", x.order(0, 1, 0, 0, 1), 3);
    }

    private static void hoursAndDays() {
        TownAsks x = new TownAsks();
        Check.useText(x, "a001;");
        x.ask(0, 10, 5, 0, 100);
        CHECK.due("FAR 15 by 8", x.order(0, 1, 0, 100, 1), 1 + 4);
        CHECK.due("FAR 16 by 8", x.order(0, 1, 31, 100, 1), 36 / 8 + 4);
        CHECK.due("place is 32 times x, and y", x.order(0, 1, 32 * 10 + 5, 100, 1), 4);
        CHECK.due("x and y", x.order(0, 1, 32 * 31 + 5, 100, 1), 21 / 8 + 4);
        int here = 32 * 10 + 5;
        // The promise is day 101.
        x.effort(0, 8);
        CHECK.due("8 hours: the same day", x.order(0, 1, here, 101, 0), 0);
        x.effort(0, 9);
        CHECK.due("9 hours: the next day", x.order(0, 1, here, 101, 0), 1);
        CHECK.due("from the day ahead", x.order(0, 1, here, 100, 0), 0);
        x.effort(0, 16);
        CHECK.due("16 hours: two days", x.order(0, 1, here, 100, 0), 0);
        x.effort(0, 17);
        CHECK.due("17 hours", x.order(0, 1, here, 100, 0), 1);
        CHECK.due("day 999", x.order(0, 1, here, 999, 0), 1);
        CHECK.due("hours where all break", x.order(0, 1, here, 999, 1), 17);
        CHECK.due("thing where all break", x.order(0, 1, here, 999, 2), 0);
        CHECK.due("day 0", x.order(0, 1, here, 0, 0), 0);
    }

    private static void fewestBreaksGoAhead() {
        TownAsks x = new TownAsks();
        Check.useText(x, "a109;a201;");
        x.effort(1, 8);
        x.effort(2, 8);
        x.ask(1, 0, 0, 0, 0);
        x.ask(2, 31, 31, 0, 0);
        // Thing 0 first takes 8 + 7 + 8 hours, but then thing 1 is done on day 2, promised for 1.
        CHECK.due("none is broken", x.order(0, 3, 0, 0, 0), 0);
        CHECK.due("though it takes longer", x.order(0, 3, 0, 0, 1), 7 + 8 + 7 + 8);
        CHECK.due("goes there first", x.order(0, 3, 0, 0, 2), 1);
        CHECK.due("then back", x.order(0, 3, 0, 0, 3), 0);
        x.effort(2, 10);
        CHECK.due("broken in any order", x.order(0, 3, 0, 0, 0), 1);
        CHECK.due("so by the fewest hours", x.order(0, 3, 0, 0, 1), 8 + 7 + 10);
        CHECK.due("thing 0 first", x.order(0, 3, 0, 0, 2), 0);
    }

    private static void lesserThingsGoAhead() {
        TownAsks x = new TownAsks();
        x.marks(3, 0, 0);
        for (int i = 0; i < 6; i++) {
            x.ask(3, i, 0, 0, 0);
        }
        for (int k = 0; k < 6; k++) {
            CHECK.due("all alike: by number", x.order(0, 63, 0, 0, 2 + k), k);
        }
        CHECK.due("behind the last", x.order(0, 63, 0, 0, 8), -1);
        CHECK.due("far behind", x.order(0, 63, 0, 0, Integer.MAX_VALUE), -1);
        CHECK.due("a set with gaps", x.order(1, 21, 0, 0, 3), 3);
        CHECK.due("its last", x.order(1, 21, 0, 0, 4), 5);
        CHECK.due("behind its last", x.order(1, 21, 0, 0, 5), -1);
        CHECK.due("no finding", x.told(7), 0);
    }

    private static void closedAndNobodys() {
        TownAsks x = new TownAsks();
        x.ask(1, 0, 0, 0, 0);
        x.ask(2, 0, 0, 0, 0);
        CHECK.due("nobody's break none", x.order(0, 3, 0, 999, 0), 0);
        Check.useText(x, "a101;");
        CHECK.due("one has a promise", x.order(0, 3, 0, 999, 0), 1);
        CHECK.due("close", x.close(0, 0), 0);
        CHECK.due("closed ones count as others", x.order(0, 3, 0, 999, 0), 1);
        CHECK.due("hours", x.order(0, 3, 0, 999, 1), 8);
        CHECK.due("first", x.order(0, 3, 0, 0, 2), 0);
    }

    private static void ringHasAPromise() {
        TownAsks x = new TownAsks();
        Check.useText(x, "a001;s001;s100;");
        x.ask(0, 0, 0, 0, 5);
        CHECK.due("ring", x.whose(0), Check.RING);
        CHECK.due("breaks", x.order(0, 1, 0, 7, 0), 1);
        CHECK.due("keeps", x.order(0, 1, 0, 6, 0), 0);
    }

    private static void edges() {
        TownAsks x = new TownAsks();
        x.marks(0, 0, 0);
        for (int i = 0; i < 10; i++) {
            x.ask(0, i, i, 0, 0);
        }
        int[][] wrong = {
            {-1, 1, 0, 0, 0}, {0, 0, 0, 0, 0}, {0, -1, 0, 0, 0}, {0, 256, 0, 0, 0},
            {0, 1, -1, 0, 0}, {0, 1, 1024, 0, 0}, {0, 1, 0, -1, 0}, {0, 1, 0, 1000, 0},
            {0, 1, 0, 0, -1}, {10, 1, 0, 0, 0}, {9, 2, 0, 0, 0}, {9, 3, 0, 0, 0}, {3, 128, 0, 0, 0},
            {Integer.MAX_VALUE, 255, 0, 0, 0}, {Integer.MAX_VALUE, 1, 0, 0, 0},
            {Integer.MIN_VALUE, 1, 0, 0, 0}, {0, 257, 0, 0, 0}, {3, 255, 0, 0, 0},
            {0, 127, 0, 0, -1}, {0, 127, 1024, 0, 0}, {0, 127, 0, 1000, 0},
        };
        for (int[] w : wrong) {
            CHECK.due("order beyond", x.order(w[0], w[1], w[2], w[3], w[4]), Check.BEYOND);
        }
        CHECK.due("seven", x.order(0, 127, 0, 0, 0), Check.LARGE);
        CHECK.due("eight", x.order(2, 255, 0, 0, 9), Check.LARGE);
        CHECK.due("six of eight bits", x.order(2, 252, 0, 0, 7), 9);
        CHECK.due("the last one", x.order(9, 1, 1023, 999, 2), 9);
        CHECK.due("bit 7", x.order(2, 128, 0, 0, 2), 9);
    }

    /** Six things whose best order is known by trying all of them here. */
    private static void sixThings() {
        int[][] place = {{0, 31}, {31, 0}, {15, 15}, {31, 31}, {7, 20}, {20, 7}};
        int[] kind = {1, 2, 3, 1, 2, 3};
        int[] hoursOf = {4, 9, 5, 3, 4};
        TownAsks x = new TownAsks();
        Check.useText(x, "a103;a212;a324;");
        for (int k = 0; k < 5; k++) {
            x.effort(k, hoursOf[k]);
        }
        for (int i = 0; i < 6; i++) {
            x.ask(kind[i], place[i][0], place[i][1], 0, i);
        }
        int[] days = {0, 3, 2, 4};
        for (int day = 0; day < 8; day++) {
            int[] best = null;
            for (int code = 0; code < 46656; code++) {
                int[] score = score(code, day, place, kind, hoursOf, days);
                if (score != null && (best == null || less(score, best))) {
                    best = score;
                }
            }
            for (int what = 0; what < best.length; what++) {
                CHECK.due("six on day " + day + ", what " + what, x.order(0, 63, 500, day, what), best[what]);
            }
        }
    }

    /** Breaks, hours and the order of a code of six digits to base 6; null if one comes twice. */
    private static int[] score(int code, int day, int[][] place, int[] kind, int[] hoursOf, int[] days) {
        int[] result = new int[8];
        boolean[] been = new boolean[6];
        int x = 500 / 32;
        int y = 500 % 32;
        int left = code;
        for (int k = 0; k < 6; k++) {
            int t = left % 6;
            left /= 6;
            if (been[t]) {
                return null;
            }
            been[t] = true;
            int far = Math.abs(place[t][0] - x) + Math.abs(place[t][1] - y);
            result[1] += far / 8 + hoursOf[kind[t]];
            if (day + (result[1] - 1) / 8 > t + days[kind[t]]) {
                result[0]++;
            }
            result[2 + k] = t;
            x = place[t][0];
            y = place[t][1];
        }
        return result;
    }

    private static boolean less(int[] a, int[] b) {
        for (int i = 0; i < a.length; i++) {
            if (a[i] != b[i]) {
                return a[i] < b[i];
            }
        }
        return false;
    }
}
