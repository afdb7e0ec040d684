/** The boundary cases of promises 15 to 19 and of numbers 4 and 5 of the terms, sentence by sentence. */
public final class CrewEdgesTest {
    private static final Check CHECK = new Check("CrewEdgesTest");
    private static final Edges EDGES = new Edges(CHECK);
    private static final int LAST = Scene.THINGS - 1;

    public static void main(String[] args) {
        effortWithinItsRanges();
        effortAtFirst();
        effortOfThatItself();
        orderWithinItsRanges();
        orderOfOthersThanThereAre();
        orderAtMostSix();
        beyondAheadOfLarge();
        orderBehindTheLast();
        farByEight();
        eightHoursADay();
        promiseOnItsDay();
        withoutAPromise();
        fewestBreakThenFewestHours();
        lesserThingFirst();
        closeWithinItsRanges();
        closeOnItsDay();
        closeWhatIsNotOpen();
        closeOrderOfFindings();
        lookWithinItsRange();
        lookOnce();
        closingsWithinTheirRanges();
        falseOnesAtLeastAndAtMost();
        CHECK.finish();
    }

    /** "hours (1 to 40 ..)", "BEYOND". */
    private static void effortWithinItsRanges() {
        EDGES.range("effort kind", 0, 4, (x, v) -> x.effort(v, 9));
        EDGES.range("effort hours", 1, 40, (x, v) -> x.effort(1, v));
        EDGES.refused("effort of neither", Check.BEYOND, x -> x.effort(5, 0));
        EDGES.taken("effort 1", 7, x -> x.effort(1, 1));
        EDGES.taken("was 1", 1, x -> x.effort(1, 1), x -> x.effort(1, 40));
        EDGES.taken("was 40", 40, x -> x.effort(1, 40), x -> x.effort(1, 4));
        EDGES.taken("0 was not taken", 7, x -> x.effort(1, 0), x -> x.effort(1, 4));
        EDGES.taken("41 was not taken", 7, x -> x.effort(1, 41), x -> x.effort(1, 4));
    }

    /** "4 at first". */
    private static void effortAtFirst() {
        TownAsks x = new TownAsks();
        for (int kind = 0; kind < 5; kind++) {
            x.ask(kind, 0, 0, 0, 0);
            CHECK.due("hours at first", x.order(kind, 1, 0, 0, 1), 4);
            CHECK.due("effort at first", x.effort(kind, 5), 4);
        }
    }

    /** "(of that itself)". */
    private static void effortOfThatItself() {
        for (int kind = 0; kind < 5; kind++) {
            TownAsks x = new TownAsks();
            x.effort(kind, 40);
            for (int other = 0; other < 5; other++) {
                x.ask(other, 0, 0, 0, 0);
                CHECK.due("hours of " + other, x.order(other, 1, 0, 0, 1), other == kind ? 40 : 4);
            }
        }
    }

    /** "BEYOND: first is below 0, place is not 0 to 1023, day not 0 to 999, what below 0, or set not 1 to 255". */
    private static void orderWithinItsRanges() {
        EDGES.range("order first", 0, LAST, (x, v) -> x.order(v, 1, 0, 0, 0));
        EDGES.range("order place", 0, 1023, (x, v) -> x.order(0, 1, v, 0, 0));
        EDGES.range("order day", 0, 999, (x, v) -> x.order(0, 1, 0, v, 0));
        EDGES.below("order what", 0, (x, v) -> x.order(0, 1, 0, 0, v));
        EDGES.below("order set", 1, (x, v) -> x.order(0, v, 0, 0, 0));
        EDGES.above("order set", 255, (x, v) -> x.order(0, v, 0, 0, 0));
        EDGES.refused("order set 257", Check.BEYOND, x -> x.order(0, 257, 0, 0, 0));
        EDGES.refused("order set -1", Check.BEYOND, x -> x.order(0, -1, 0, 0, 0));
        EDGES.taken("set 1", 0, x -> x.order(0, 1, 0, 0, 2));
        EDGES.taken("set 128", 7, x -> x.order(0, 128, 0, 0, 2));
        EDGES.taken("set 252", 6, x -> countOrdered(x, 0, 252));
        EDGES.taken("what 0", 0, x -> x.order(0, 1, 0, 0, 0));
    }

    private static int countOrdered(TownAsks x, int first, int set) {
        int count = 0;
        while (count < 9 && x.order(first, set, 0, 0, 2 + count) >= 0) {
            count++;
        }
        return count;
    }

    /** "or it has others than there are". */
    private static void orderOfOthersThanThereAre() {
        for (int bit = 0; bit < 8; bit++) {
            int set = 1 << bit;
            int first = LAST - bit;
            int wraps = Integer.MAX_VALUE - bit + 1;
            EDGES.taken("the last thing by bit " + bit, LAST, x -> x.order(first, set, 0, 0, 2));
            EDGES.refused("behind it by bit " + bit, Check.BEYOND, x -> x.order(first + 1, set, 0, 0, 2));
            EDGES.refused("the last and one behind, bit " + bit, Check.BEYOND,
                    x -> x.order(first + 1, set | 1, 0, 0, 2));
            EDGES.refused("far behind by bit " + bit, Check.BEYOND,
                    x -> x.order(Integer.MAX_VALUE, set, 0, 0, 2));
            EDGES.refused("wrapped around by bit " + bit, Check.BEYOND,
                    x -> x.order(wraps, set, 0, 0, 2));
        }
        TownAsks x = new TownAsks();
        x.marks(1, 0, 0);
        for (int i = 0; i < 40; i++) {
            x.ask(1, i % 32, i / 32, 0, 0);
        }
        CHECK.due("the 40th thing", x.order(39, 1, 0, 0, 2), 39);
        CHECK.due("by bit 7", x.order(32, 128, 0, 0, 2), 39);
        CHECK.due("a 41st", x.order(40, 1, 0, 0, 2), Check.BEYOND);
        CHECK.due("a 41st by bit 7", x.order(33, 128, 0, 0, 2), Check.BEYOND);
    }

    /** "LARGE: it has more than 6." */
    private static void orderAtMostSix() {
        for (int set : new int[] {63, 252, 219, 126}) {
            EDGES.taken("six by " + set, 6, x -> countOrdered(x, 0, set));
        }
        for (int set : new int[] {127, 254, 191, 255}) {
            EDGES.refused("more by " + set, Check.LARGE, x -> x.order(0, set, 0, 0, 0));
            EDGES.refused("more by " + set + ", far behind", Check.LARGE,
                    x -> x.order(0, set, 1023, 999, Integer.MAX_VALUE));
        }
    }

    private static void beyondAheadOfLarge() {
        EDGES.refused("first -1", Check.BEYOND, x -> x.order(-1, 127, 0, 0, 0));
        EDGES.refused("place -1", Check.BEYOND, x -> x.order(0, 127, -1, 0, 0));
        EDGES.refused("place 1024", Check.BEYOND, x -> x.order(0, 127, 1024, 0, 0));
        EDGES.refused("day -1", Check.BEYOND, x -> x.order(0, 127, 0, -1, 0));
        EDGES.refused("day 1000", Check.BEYOND, x -> x.order(0, 127, 0, 1000, 0));
        EDGES.refused("what -1", Check.BEYOND, x -> x.order(0, 127, 0, 0, -1));
        EDGES.refused("set 511", Check.BEYOND, x -> x.order(0, 511, 0, 0, 0));
        EDGES.refused("one of seven is not there", Check.BEYOND, x -> x.order(LAST - 5, 127, 0, 0, 0));
        EDGES.refused("all seven are there", Check.LARGE, x -> x.order(LAST - 6, 127, 0, 0, 0));
    }

    /** "(-1 behind the last one; no finding)". */
    private static void orderBehindTheLast() {
        EDGES.taken("the only one", 3, x -> x.order(3, 1, 0, 0, 2));
        EDGES.taken("behind the only one", -1, x -> x.order(3, 1, 0, 0, 3));
        EDGES.taken("far behind it", -1, x -> x.order(3, 1, 0, 0, Integer.MAX_VALUE));
        EDGES.taken("the sixth of six", 1, x -> x.order(0, 63, 0, 0, 7) >= 0 ? 1 : 0);
        EDGES.taken("behind the sixth", -1, x -> x.order(0, 63, 0, 0, 8));
        // An order of more things leaves nothing behind in one of less.
        EDGES.taken("after one of six", -1, x -> x.order(0, 63, 0, 0, 7), x -> x.order(0, 3, 0, 0, 4));
    }

    /** "to each it goes FAR by 8 hours, then takes its EFFORT" (quotients are cut). */
    private static void farByEight() {
        int[] far = {0, 7, 8, 15, 16, 31, 32, 55, 56, 62};
        TownAsks x = new TownAsks();
        x.effort(1, 1);
        x.ask(1, 0, 0, 0, 0);
        for (int f : far) {
            int place = 32 * Math.min(f, 31) + Math.max(0, f - 31);
            CHECK.due("hours for FAR " + f, x.order(0, 1, place, 0, 1), f / 8 + 1);
        }
        TownAsks y = new TownAsks();
        y.marks(1, 0, 0);
        y.effort(1, 1);
        y.ask(1, 7, 0, 0, 0);
        y.ask(1, 14, 0, 0, 0);
        CHECK.due("each way is cut on its own", y.order(0, 3, 0, 0, 1), 2);
        CHECK.due("not both together", y.order(1, 1, 0, 0, 1), 2);
    }

    /** "has 8 hours a day", "the hours so far (with its own) less 1, by 8, more". */
    private static void eightHoursADay() {
        int[][] hoursAndDays = {{1, 0}, {7, 0}, {8, 0}, {9, 1}, {16, 1}, {17, 2}, {24, 2}, {25, 3}, {32, 3}, {33, 4}, {40, 4}};
        TownAsks x = new TownAsks();
        Check.useText(x, "a005;");
        x.ask(0, 3, 3, 0, 100);
        for (int[] h : hoursAndDays) {
            x.effort(0, h[0]);
            int last = 105 - h[1];
            CHECK.due(h[0] + " hours, just in time", x.order(0, 1, 99, last, 0), 0);
            CHECK.due(h[0] + " hours, a day too late", x.order(0, 1, 99, last + 1, 0), 1);
        }
        // Hours of one day and the next ones follow one another, those on the way too.
        x.effort(0, 4);
        x.ask(1, 3, 3, 0, 100);
        x.effort(1, 4);
        CHECK.due("4 and 4 hours on one day", x.order(0, 3, 99, 105, 0), 0);
        x.effort(1, 5);
        CHECK.due("4 and 5 hours", x.order(0, 3, 99, 105, 0), 1);
        CHECK.due("4 and 5 hours from the day ahead", x.order(0, 3, 99, 104, 0), 0);
        x.effort(0, 8);
        CHECK.due("8 hours and one on the way", x.order(0, 1, 99 + 8, 105, 0), 1);
        CHECK.due("8 hours and less than one on the way", x.order(0, 1, 99 + 7, 105, 0), 0);
    }

    /** "It BREAKS its PROMISE if that is behind it." */
    private static void promiseOnItsDay() {
        for (int day : new int[] {0, 500, 990, 999}) {
            TownAsks x = new TownAsks();
            x.ask(0, 0, 0, 0, day);
            Check.useText(x, "a009;");
            int due = day + 9;
            if (due <= 999) {
                CHECK.due("on the day " + due, x.order(0, 1, 0, due, 0), 0);
            }
            if (due < 999) {
                CHECK.due("behind the day " + due, x.order(0, 1, 0, due + 1, 0), 1);
            }
        }
        // What is promised for a day behind 999 is still due on it.
        TownAsks x = new TownAsks();
        x.ask(0, 0, 0, 0, 999);
        Check.useText(x, "a004;");
        x.effort(0, 40);
        CHECK.due("40 hours from day 999: on 1003", x.order(0, 1, 0, 999, 0), 0);
        Check.useText(x, "a003;");
        CHECK.due("promised for 1002", x.order(0, 1, 0, 999, 0), 1);
    }

    /** "THINGS that are CLOSED and those without a PROMISE count as others: those without BREAK none." */
    private static void withoutAPromise() {
        EDGES.taken("nobody's on the last day", 0, x -> x.order(Scene.NOBODYS, 1, 0, 999, 0));
        EDGES.taken("nobody's hours", 4, x -> x.order(Scene.NOBODYS, 1, 2 * 32 + 2, 999, 1));
        EDGES.taken("closed", 1, x -> x.order(Scene.CLOSED, 1, 0, 999, 0));
        EDGES.taken("looked at", 1, x -> x.order(Scene.LOOKED_AT, 1, 0, 999, 0));
        EDGES.taken("in a ring", 1, x -> x.order(Scene.IN_A_RING, 1, 0, 999, 0));
        EDGES.taken("where each breaks: how many", 4, x -> x.order(1, 15, 0, 999, 0));
        EDGES.taken("where each breaks: the hours", 7 + 4 + 4 + 2 + 3 + 1 + 1 + 2, x -> x.order(1, 15, 0, 999, 1));
        EDGES.taken("where each breaks: the first", 1, x -> x.order(1, 15, 0, 999, 2));
        EDGES.taken("all five", 4, x -> x.order(0, 31, 0, 999, 0));
        EDGES.taken("all five are done", 5, x -> countOrdered(x, 0, 31));
    }

    /** "in which the fewest BREAK their PROMISE, of these the one with the fewest hours". */
    private static void fewestBreakThenFewestHours() {
        TownAsks x = new TownAsks();
        Check.useText(x, "a102;a201;");
        x.effort(1, 8);
        x.effort(2, 8);
        x.ask(1, 0, 0, 0, 10);
        x.ask(2, 8, 0, 0, 10);
        // The near one first: 8 hours, then 1 and 8; the far one first: 1 and 8, then 1 and 8.
        CHECK.due("one hour more and none broken", x.order(0, 3, 0, 10, 1), 18);
        CHECK.due("none", x.order(0, 3, 0, 10, 0), 0);
        CHECK.due("the far one first", x.order(0, 3, 0, 10, 2), 1);
        Check.useText(x, "a102;a202;");
        CHECK.due("with a day more: the fewest hours", x.order(0, 3, 0, 10, 1), 17);
        CHECK.due("the near one first", x.order(0, 3, 0, 10, 2), 0);
    }

    /** "of these the one with the lesser THING where two first differ". */
    private static void lesserThingFirst() {
        TownAsks x = new TownAsks();
        x.marks(1, 0, 0);
        int[][] places = {{8, 0}, {0, 8}, {8, 8}, {0, 0}};
        for (int[] p : places) {
            x.ask(1, p[0], p[1], 0, 0);
        }
        int[] ring = {0, 2, 1, 3};
        for (int k = 0; k < 4; k++) {
            CHECK.due("of two ways around the lesser, " + k, x.order(0, 15, 8 * 32, 0, 2 + k), ring[k]);
        }
        CHECK.due("in 3 hours on the way", x.order(0, 15, 8 * 32, 0, 1), 16 + 3);
        for (int k = 0; k < 2; k++) {
            CHECK.due("both as far, " + k, x.order(0, 3, 0, 0, 2 + k), k);
        }
    }

    /** "BEYOND: no such THING, or day is not 0 to 999." */
    private static void closeWithinItsRanges() {
        EDGES.below("close t", 0, (x, v) -> x.close(v, 500));
        EDGES.above("close t", LAST, (x, v) -> x.close(v, 500));
        EDGES.below("close day", 0, (x, v) -> x.close(Scene.OPEN_AGAIN, v));
        EDGES.above("close day", 999, (x, v) -> x.close(Scene.OPEN_AGAIN, v));
        EDGES.taken("the last thing", 2, x -> x.close(LAST, 500));
        EDGES.taken("on day 999", 2, x -> x.close(Scene.OPEN_AGAIN, 999));
        TownAsks x = new TownAsks();
        Check.useText(x, "a001;");
        x.ask(0, 0, 0, 0, 0);
        CHECK.due("on day -1", x.close(0, -1), Check.BEYOND);
        CHECK.due("on day 0", x.close(0, 0), 0);
        CHECK.due("closed on 0", x.thing(0, 7), 0);
    }

    /** "STATE: .. or day is ahead of its DAY." */
    private static void closeOnItsDay() {
        EDGES.taken("on its day", 2, x -> x.close(Scene.OPEN_AGAIN, Scene.FIRST_DAY));
        EDGES.refused("a day ahead", Check.STATE, x -> x.close(Scene.OPEN_AGAIN, Scene.FIRST_DAY - 1));
        EDGES.refused("on day 0", Check.STATE, x -> x.close(Scene.OPEN_AGAIN, 0));
        EDGES.taken("the last thing on its day", 2, x -> x.close(LAST, Scene.LATEST_DAY));
        EDGES.refused("and a day ahead", Check.STATE, x -> x.close(LAST, Scene.LATEST_DAY - 1));
    }

    /** "STATE: it is not OPEN". */
    private static void closeWhatIsNotOpen() {
        EDGES.refused("closed", Check.STATE, x -> x.close(Scene.CLOSED, 500));
        EDGES.refused("closed and looked at", Check.STATE, x -> x.close(Scene.LOOKED_AT, 500));
        EDGES.taken("found false", 2, x -> x.close(Scene.OPEN_AGAIN, 500));
        EDGES.refused("closed anew", Check.STATE, x -> x.close(Scene.OPEN_AGAIN, 500),
                x -> x.close(Scene.OPEN_AGAIN, 501));
    }

    /** "BEYOND .. STATE .. NONE, RING", in this order. */
    private static void closeOrderOfFindings() {
        EDGES.refused("nobody's", Check.NONE, x -> x.close(Scene.NOBODYS, Scene.FIRST_DAY));
        EDGES.refused("in a ring", Check.RING, x -> x.close(Scene.IN_A_RING, Scene.FIRST_DAY));
        EDGES.refused("STATE ahead of NONE", Check.STATE, x -> x.close(Scene.NOBODYS, Scene.FIRST_DAY - 1));
        EDGES.refused("STATE ahead of RING", Check.STATE, x -> x.close(Scene.IN_A_RING, Scene.FIRST_DAY - 1));
        EDGES.refused("BEYOND ahead of NONE", Check.BEYOND, x -> x.close(Scene.NOBODYS, 1000));
        EDGES.refused("BEYOND ahead of RING", Check.BEYOND, x -> x.close(Scene.IN_A_RING, 1000));
        EDGES.refused("BEYOND ahead of STATE, closed", Check.BEYOND, x -> x.close(Scene.CLOSED, 1000));
        EDGES.refused("BEYOND ahead of STATE, early", Check.BEYOND, x -> x.close(Scene.OPEN_AGAIN, -1));
        EDGES.refused("closed, then nobody's: STATE", Check.STATE, x -> x.text() + x.text(),
                x -> x.close(Scene.CLOSED, 500));
        EDGES.refused("open, then nobody's: NONE", Check.NONE, x -> x.text() + x.text(),
                x -> x.close(Scene.OPEN_AGAIN, 500));
    }

    /** "BEYOND." */
    private static void lookWithinItsRange() {
        EDGES.below("look t", 0, (x, v) -> x.look(v, true));
        EDGES.above("look t", LAST, (x, v) -> x.look(v, true));
        EDGES.below("look t, false", 0, (x, v) -> x.look(v, false));
        EDGES.above("look t, false", LAST, (x, v) -> x.look(v, false));
        EDGES.taken("the last thing", 1, x -> x.close(LAST, 500), x -> x.look(LAST, true));
        TownAsks x = new TownAsks();
        Check.useText(x, "a001;");
        x.ask(0, 0, 0, 0, 0);
        x.close(0, 0);
        CHECK.due("the first thing", x.look(0, false), 1);
    }

    /** "STATE: it is OPEN, or was LOOKED at since it was CLOSED." */
    private static void lookOnce() {
        for (boolean is : new boolean[] {true, false}) {
            EDGES.refused("open, never closed " + is, Check.STATE, x -> x.look(Scene.IN_A_RING, is));
            EDGES.refused("open again " + is, Check.STATE, x -> x.look(Scene.OPEN_AGAIN, is));
            EDGES.refused("looked at " + is, Check.STATE, x -> x.look(Scene.LOOKED_AT, is));
            EDGES.taken("closed " + is, 1, x -> x.look(Scene.CLOSED, is));
            EDGES.refused("closed, then looked at " + is, Check.STATE, x -> x.look(Scene.CLOSED, true),
                    x -> x.look(Scene.CLOSED, is));
            EDGES.refused("closed, then found false " + is, Check.STATE, x -> x.look(Scene.CLOSED, false),
                    x -> x.look(Scene.CLOSED, is));
            EDGES.taken("closed anew " + is, 1, x -> x.close(Scene.OPEN_AGAIN, 500),
                    x -> x.look(Scene.OPEN_AGAIN, is));
            EDGES.taken("closed, now nobody's " + is, 1, x -> x.text() + x.text(), x -> x.look(Scene.CLOSED, is));
        }
    }

    /** "BEYOND." */
    private static void closingsWithinTheirRanges() {
        for (int what = 0; what <= 3; what++) {
            int told = what;
            EDGES.range("closings desk, what " + what, 0, 5, (x, v) -> x.closings(v, told));
        }
        EDGES.range("closings what", 0, 3, (x, v) -> x.closings(5, v));
        EDGES.refused("closings of neither", Check.BEYOND, x -> x.closings(6, 4));
    }

    /** "at least those that were found, at most those and all that were not LOOKED at". */
    private static void falseOnesAtLeastAndAtMost() {
        for (int desk : new int[] {0, 5}) {
            TownAsks x = new TownAsks();
            Check.useText(x, "a0" + desk + "1;");
            x.ask(1, 0, 0, 0, 0);
            x.ask(2, 0, 0, 0, 0);
            counts("none", x, desk, 0, 0, 0, 0);
            x.close(0, 0);
            x.close(1, 0);
            counts("none looked at: all may be false", x, desk, 2, 0, 0, 2);
            x.look(0, true);
            counts("one true", x, desk, 2, 1, 0, 1);
            x.look(1, false);
            counts("all looked at: the bounds meet", x, desk, 2, 2, 1, 1);
            x.close(1, 0);
            counts("what was looked at stays counted", x, desk, 3, 2, 1, 2);
            x.look(1, false);
            counts("false anew", x, desk, 3, 3, 2, 2);
            counts("another desk", x, 5 - desk, 0, 0, 0, 0);
        }
    }

    private static void counts(String when, TownAsks x, int desk, int... want) {
        for (int what = 0; what < 4; what++) {
            CHECK.due(when + ": closings(" + desk + ", " + what + ")", x.closings(desk, what), want[what]);
        }
    }
}
