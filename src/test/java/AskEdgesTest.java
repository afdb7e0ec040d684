/** The boundary cases of promises 1 to 7 and of numbers 1 and 2 of the terms, sentence by sentence. */
public final class AskEdgesTest {
    private static final Check CHECK = new Check("AskEdgesTest");
    private static final Edges EDGES = new Edges(CHECK);
    private static final int LATEST = Scene.LATEST_DAY;

    public static void main(String[] args) {
        theScene();
        newObjectHasNoAsks();
        newObjectHasNoTextAndTape();
        newObjectHasNoSheets();
        numbersOfAnAsk();
        numbersAreKeptAtTheirEdges();
        dayOfTheLatestAsk();
        dayOfTheLatestRead();
        fortyAsks();
        beyondAheadOfFull();
        quartersPart();
        marksWithinTheirRanges();
        marksAtFirst();
        thingsStayAsMarksChange();
        farIsNotAboveNearAndDoubts();
        daysAreNotMoreThanApart();
        darkMeetsALampNever();
        meetOfTwo();
        firstThingAllOfWhoseAsksMeet();
        firstThingThatIsOpen();
        ofWithinItsRanges();
        asWithinItsRanges();
        kindOrUnder();
        fewestWithinItsRanges();
        fewestAtMostTwelve();
        fewestOfNone();
        CHECK.finish();
    }

    /** The other tests count on the scene being as it says. */
    private static void theScene() {
        TownAsks x = Scene.rich();
        int[] told = {Scene.ASKS, Scene.THINGS, Scene.THINGS - 2, Scene.ROWS, Scene.TAPE, 3, LATEST, 0};
        for (int what = 0; what < told.length; what++) {
            CHECK.due("scene: told(" + what + ")", x.told(what), told[what]);
        }
        CHECK.due("scene: nobody's", x.whose(Scene.NOBODYS), Check.NONE);
        CHECK.due("scene: ring", x.whose(Scene.IN_A_RING), Check.RING);
        int[][] states = {{Scene.CLOSED, 0, 0, 1}, {Scene.LOOKED_AT, 0, 1, 1}, {Scene.OPEN_AGAIN, 1, 0, 1}};
        for (int[] s : states) {
            CHECK.due("scene: open " + s[0], x.thing(s[0], 5), s[1]);
            CHECK.due("scene: looked at " + s[0], x.thing(s[0], 8), s[2]);
            CHECK.due("scene: closed " + s[0], x.thing(s[0], 6), s[3]);
        }
        CHECK.due("scene: 40 asks", Scene.fillAsks(x) < 0 ? 1 : x.told(0), 40);
        CHECK.due("scene: 80 bytes", Scene.fillTape(x), 80);
    }

    /** "No ASKS" (and so no THINGS). */
    private static void newObjectHasNoAsks() {
        TownAsks x = new TownAsks();
        for (int what = 0; what <= 7; what++) {
            CHECK.due("new: told(" + what + ")", x.told(what), 0);
        }
        CHECK.due("new: fewest of none", x.fewest(0, 0), 0);
        int[] answers = {
            x.of(0, 0), x.meet(0, 1), x.as(0, 0), x.fewest(0, 1), x.thing(0, 0), x.asked(0, 0), x.whose(0),
            x.promise(0), x.sent(0), x.close(0, 0), x.look(0, true), x.look(0, false), x.order(0, 1, 0, 0, 0),
        };
        for (int i = 0; i < answers.length; i++) {
            CHECK.due("new: no such one, call " + i, answers[i], Check.BEYOND);
        }
        CHECK.due("new: all counted", x.told(7), answers.length);
        CHECK.due("the first thing is 0", x.ask(0, 0, 0, 0, 0), 0);
        CHECK.due("the first ask is 0", x.asked(0, 0), 0);
    }

    /** "an empty TEXT and tape". */
    private static void newObjectHasNoTextAndTape() {
        TownAsks x = new TownAsks();
        for (int kind = 0; kind < 5; kind++) {
            x.ask(kind, 0, 0, 0, 0);
            CHECK.due("new: whose", x.whose(kind), Check.NONE);
            CHECK.due("new: promise", x.promise(kind), Check.NONE);
            CHECK.due("new: sent", x.sent(kind), Check.NONE);
            CHECK.due("new: close", x.close(kind, 0), Check.NONE);
        }
        CHECK.due("new: rows", x.told(3), 0);
        CHECK.due("new: bytes", x.told(4), 0);
        CHECK.due("new: text of the tape", x.text(), 0);
        CHECK.due("new: the first byte", x.feed('a', 1), 1);
    }

    /** "sheets MISSING". */
    private static void newObjectHasNoSheets() {
        TownAsks x = new TownAsks();
        for (int s = 0; s < 4; s++) {
            CHECK.due("new: write", x.write(s, 0, 0), Check.MISSING);
            CHECK.due("new: read", x.read(s, 0, 0), Check.MISSING);
            CHECK.due("new: copy", x.copy(s, 0, s, 0, 0), Check.MISSING);
        }
    }

    /** "BEYOND: no such KIND, or a number is not as told". */
    private static void numbersOfAnAsk() {
        EDGES.range("ask kind", 0, 4, (x, v) -> x.ask(v, 5, 5, 0, LATEST));
        EDGES.range("ask x", 0, 31, (x, v) -> x.ask(1, v, 5, 0, LATEST));
        EDGES.range("ask y", 0, 31, (x, v) -> x.ask(1, 5, v, 0, LATEST));
        EDGES.range("ask doubt", 0, 9, (x, v) -> x.ask(1, 5, 5, v, LATEST));
        EDGES.range("ask day", LATEST, 999, (x, v) -> x.ask(1, 5, 5, 0, v));
    }

    private static void numbersAreKeptAtTheirEdges() {
        int[][] edges = {{0, 0, 0, 0, 0}, {4, 31, 0, 9, 0}, {1, 0, 31, 0, 998}, {4, 31, 31, 9, 999}};
        TownAsks x = new TownAsks();
        for (int ask = 0; ask < edges.length; ask++) {
            int[] e = edges[ask];
            CHECK.due("ask " + ask, x.ask(e[0], e[1], e[2], e[3], e[4]), ask);
            for (int what = 0; what < 5; what++) {
                CHECK.due("of(" + ask + ", " + what + ")", x.of(ask, what), e[what]);
            }
        }
        TownAsks y = new TownAsks();
        CHECK.due("day -1 without any ask", y.ask(0, 0, 0, 0, -1), Check.BEYOND);
        CHECK.due("day 1000 without any ask", y.ask(0, 0, 0, 0, 1000), Check.BEYOND);
        CHECK.due("day 999 without any ask", y.ask(0, 0, 0, 0, 999), 0);
        CHECK.due("day 998 then", y.ask(0, 0, 0, 0, 998), Check.BEYOND);
    }

    /** "not ahead of that of the latest ASK". */
    private static void dayOfTheLatestAsk() {
        TownAsks x = new TownAsks();
        Check.useText(x, "a011;");
        x.ask(1, 5, 5, 0, 50);
        CHECK.due("the day ahead", x.ask(1, 5, 5, 0, 49), Check.BEYOND);
        CHECK.due("refused, with a later day", x.ask(1, 5, 5, 10, 80), Check.BEYOND);
        CHECK.due("a day of a closing", x.close(0, 90), 1);
        CHECK.due("neither is an ask's day", x.told(6), 50);
        CHECK.due("that day", x.ask(1, 5, 5, 0, 50), 1);
        CHECK.due("a day more", x.ask(2, 5, 5, 0, 51), 2);
        CHECK.due("of another kind, too", x.ask(1, 5, 5, 0, 50), Check.BEYOND);
    }

    private static void dayOfTheLatestRead() {
        TownAsks x = new TownAsks();
        x.sheet(0, 8, 1);
        x.sheet(1, 8, 0);
        CHECK.due("read", x.read(0, 1, 60), 1);
        CHECK.due("an empty one tells no day", x.read(1, 1, 70), 1);
        CHECK.due("ahead of what was read", x.ask(1, 5, 5, 0, 59), Check.BEYOND);
        CHECK.due("a read ahead of it", x.read(0, 1, 59), Check.BEYOND);
        CHECK.due("that day", x.ask(1, 5, 5, 0, 60), 1);
    }

    /** "(at most 40)", "FULL". */
    private static void fortyAsks() {
        EDGES.refused("a 41st ask, for a thing that is there", Check.FULL, Scene::fillAsks,
                x -> x.ask(3, 0, 0, 0, LATEST));
        EDGES.refused("a 41st ask, for a new thing", Check.FULL, Scene::fillAsks,
                x -> x.ask(1, 31, 31, 0, LATEST + 1));
        TownAsks x = new TownAsks();
        for (int ask = 0; ask < 40; ask++) {
            CHECK.due("ask " + ask, x.ask(2, 7, 7, 0, 0), 0);
            CHECK.due("its number", x.asked(0, ask), ask);
            CHECK.due("so many", x.told(0), ask + 1);
        }
        CHECK.due("of the last", x.of(39, 1), 7);
        CHECK.due("behind the last", x.of(40, 1), Check.BEYOND);
        CHECK.due("full", x.ask(2, 7, 7, 0, 0), Check.FULL);
        CHECK.due("40 of one thing", x.thing(0, 4), 40);
        CHECK.due("and no more", x.asked(0, 40), -1);
    }

    private static void beyondAheadOfFull() {
        EDGES.refused("full, kind -1", Check.BEYOND, Scene::fillAsks, x -> x.ask(-1, 0, 0, 0, LATEST));
        EDGES.refused("full, kind 5", Check.BEYOND, Scene::fillAsks, x -> x.ask(5, 0, 0, 0, LATEST));
        EDGES.refused("full, x 32", Check.BEYOND, Scene::fillAsks, x -> x.ask(0, 32, 0, 0, LATEST));
        EDGES.refused("full, y -1", Check.BEYOND, Scene::fillAsks, x -> x.ask(0, 0, -1, 0, LATEST));
        EDGES.refused("full, doubt 10", Check.BEYOND, Scene::fillAsks, x -> x.ask(0, 0, 0, 10, LATEST));
        EDGES.refused("full, day 1000", Check.BEYOND, Scene::fillAsks, x -> x.ask(0, 0, 0, 0, 1000));
        EDGES.refused("full, a day ahead", Check.BEYOND, Scene::fillAsks, x -> x.ask(0, 0, 0, 0, LATEST - 1));
    }

    /** "1 for x of 16 or more, and 2 for y of 16 or more, together". */
    private static void quartersPart() {
        int[] edge = {0, 15, 16, 31};
        TownAsks x = new TownAsks();
        x.marks(0, 0, 0);
        int ask = 0;
        for (int i = 0; i < 4; i++) {
            for (int j = 0; j < 4; j++) {
                CHECK.due("its thing", x.ask(0, edge[i], edge[j], 0, 0), ask);
                CHECK.due("quarter of " + edge[i] + ", " + edge[j], x.of(ask, 6), i / 2 + j / 2 * 2);
                ask++;
            }
        }
        for (int quarter = 0; quarter < 4; quarter++) {
            CHECK.due("things in it", x.quarter(quarter, 0), 4);
            CHECK.due("asks in it", x.quarter(quarter, 1), 4);
        }
    }

    /** "NEAR (0 to 20 ..) and APART (0 to 99 days ..) are told for each KIND", "BEYOND". */
    private static void marksWithinTheirRanges() {
        EDGES.range("marks kind", 0, 4, (x, v) -> x.marks(v, 3, 3));
        EDGES.range("marks near", 0, 20, (x, v) -> x.marks(1, v, 3));
        EDGES.range("marks apart", 0, 99, (x, v) -> x.marks(1, 3, v));
        EDGES.taken("least marks", 1, x -> x.marks(0, 0, 0));
        EDGES.taken("most marks", 1, x -> x.marks(4, 20, 99));
    }

    /** "2 at first", "30 at first". */
    private static void marksAtFirst() {
        for (int kind = 0; kind < 5; kind++) {
            TownAsks x = new TownAsks();
            x.ask(kind, 8, 8, 0, 0);
            CHECK.due("FAR 2 at first", x.ask(kind, 8, 10, 0, 0), 0);
            CHECK.due("FAR 3 at first", x.ask(kind, 6, 9, 0, 0), 1);
            CHECK.due("30 days at first", x.ask(kind, 8, 9, 0, 30), 0);
            CHECK.due("31 days at first", x.ask(kind, 8, 9, 0, 31), 2);
        }
    }

    /** "(THINGS stay as they are.)" */
    private static void thingsStayAsMarksChange() {
        TownAsks x = new TownAsks();
        x.ask(1, 5, 5, 0, 0);
        x.ask(1, 5, 7, 0, 0);
        x.ask(1, 5, 8, 0, 0);
        x.marks(1, 0, 0);
        CHECK.due("they meet no more", x.meet(0, 1), 0);
        CHECK.due("and are of one thing", x.of(1, 5), 0);
        CHECK.due("of two asks", x.thing(0, 4), 2);
        x.marks(1, 20, 99);
        CHECK.due("they meet now", x.meet(0, 2), 1);
        CHECK.due("and are of two things", x.of(2, 5), 1);
        CHECK.due("two things", x.told(1), 2);
    }

    /** "FAR of their PLACES is not above NEAR of that KIND and both DOUBTS together". */
    private static void farIsNotAboveNearAndDoubts() {
        int[][] marks = {{0, 0, 0}, {0, 9, 0}, {0, 0, 9}, {20, 0, 0}, {20, 9, 9}, {7, 1, 2}};
        for (int[] m : marks) {
            int reach = m[0] + m[1] + m[2];
            for (int more = 0; more < 2; more++) {
                TownAsks x = new TownAsks();
                x.marks(3, m[0], 0);
                int far = reach + more;
                x.ask(3, 0, 31, m[1], 4);
                int t = x.ask(3, Math.min(31, far), 31 - Math.max(0, far - 31), m[2], 4);
                CHECK.due("FAR " + far + " by " + reach, x.meet(0, 1), 1 - more);
                CHECK.due("either way", x.meet(1, 0), 1 - more);
                CHECK.due("its thing", t, more);
            }
        }
    }

    /** "their DAYS are not more than APART of it from one another". */
    private static void daysAreNotMoreThanApart() {
        for (int apart : new int[] {0, 1, 30, 98, 99}) {
            for (int more = 0; more < 2; more++) {
                TownAsks x = new TownAsks();
                x.marks(2, 0, apart);
                x.ask(2, 9, 9, 9, 900 - more);
                int t = x.ask(2, 9, 9, 9, 900 + apart);
                CHECK.due("days " + (apart + more) + " by " + apart, x.meet(0, 1), 1 - more);
                CHECK.due("either way", x.meet(1, 0), 1 - more);
                CHECK.due("its thing", t, more);
            }
        }
    }

    /** "Two ASKS MEET if they are of one KIND"; "(A DARK one MEETS a LAMP never.)" */
    private static void darkMeetsALampNever() {
        TownAsks x = new TownAsks();
        for (int kind = 0; kind < 5; kind++) {
            x.marks(kind, 20, 99);
            CHECK.due("a thing of its own", x.ask(kind, 6, 6, 9, 0), kind);
        }
        for (int a = 0; a < 5; a++) {
            for (int b = 0; b < 5; b++) {
                CHECK.due("kinds " + a + " and " + b, x.meet(a, b), a == b ? Check.BEYOND : 0);
            }
        }
    }

    /** "BEYOND: no such ASK (either), or they are one." */
    private static void meetOfTwo() {
        EDGES.range("meet a", 0, Scene.ASKS - 1, (x, v) -> x.meet(v, 3));
        EDGES.range("meet b", 0, Scene.ASKS - 1, (x, v) -> x.meet(3, v));
        for (int ask : new int[] {0, 3, Scene.ASKS - 1}) {
            EDGES.refused("meet of one, " + ask, Check.BEYOND, x -> x.meet(ask, ask));
        }
        EDGES.refused("meet of one that is none", Check.BEYOND, x -> x.meet(-1, -1));
        EDGES.refused("meet of two that are none", Check.BEYOND, x -> x.meet(Scene.ASKS, Scene.ASKS + 1));
    }

    /** "it goes to the first THING .. all of whose ASKS MEET it". */
    private static void firstThingAllOfWhoseAsksMeet() {
        TownAsks x = new TownAsks();
        x.ask(1, 10, 10, 0, 0);
        x.ask(1, 14, 10, 0, 0);
        x.ask(1, 9, 10, 0, 0);
        CHECK.due("of two the first", x.ask(1, 12, 10, 2, 0), 0);
        CHECK.due("meets the last of 0, not the first", x.ask(1, 14, 10, 0, 0), 1);
        CHECK.due("meets the first of 0, not the second", x.ask(1, 12, 10, 0, 0), 1);
        CHECK.due("meets none", x.ask(1, 20, 10, 0, 0), 2);
        CHECK.due("one day too late for any", x.ask(1, 10, 10, 9, 31), 3);
    }

    /** "the first THING that is OPEN". */
    private static void firstThingThatIsOpen() {
        TownAsks x = new TownAsks();
        Check.useText(x, "a011;");
        x.ask(1, 5, 5, 0, 0);
        x.close(0, 0);
        CHECK.due("the first is closed", x.ask(1, 5, 5, 0, 0), 1);
        x.close(1, 0);
        x.look(1, true);
        CHECK.due("looked at, it is closed still", x.ask(1, 5, 5, 0, 0), 2);
        x.look(0, false);
        CHECK.due("open again", x.ask(1, 5, 5, 0, 0), 0);
        CHECK.due("its asks are not of days of closings", x.thing(0, 3), 0);
        CHECK.due("two of them", x.thing(0, 4), 2);
    }

    /** "BEYOND: no such ASK, or another what." */
    private static void ofWithinItsRanges() {
        for (int what = 0; what <= 6; what++) {
            int told = what;
            EDGES.range("of ask, what " + what, 0, Scene.ASKS - 1, (x, v) -> x.of(v, told));
        }
        EDGES.range("of what", 0, 6, (x, v) -> x.of(Scene.ASKS - 1, v));
        EDGES.refused("of neither", Check.BEYOND, x -> x.of(Scene.ASKS, 7));
    }

    /** "BEYOND: no such ASK, or KIND." The ask 4 is DARK, so no kind under 0 or 2 is refused it. */
    private static void asWithinItsRanges() {
        EDGES.range("as ask", 0, Scene.ASKS - 1, (x, v) -> x.as(v, 0));
        EDGES.range("as kind", 0, 4, (x, v) -> x.as(4, v));
        EDGES.refused("BEYOND ahead of KIND, kind", Check.BEYOND, x -> x.as(0, 5));
        EDGES.refused("BEYOND ahead of KIND, ask", Check.BEYOND, x -> x.as(Scene.ASKS, 4));
    }

    /** "KIND: it is not of that KIND, nor of one under it." The asks 0 to 4 are of kinds 0 to 4. */
    private static void kindOrUnder() {
        String[] may = {"0", "01", "02", "03", "024"};
        for (int ask = 0; ask < 5; ask++) {
            for (int kind = 0; kind < 5; kind++) {
                int of = ask;
                int as = kind;
                String call = "as(" + ask + ", " + kind + ")";
                if (may[ask].indexOf('0' + kind) >= 0) {
                    EDGES.taken(call, ask, x -> x.as(of, as));
                } else {
                    EDGES.refused(call, Check.KIND, x -> x.as(of, as));
                }
            }
        }
    }

    /** "BEYOND: from or n is below 0, or there are not so many." */
    private static void fewestWithinItsRanges() {
        EDGES.range("fewest from, of 0", 0, Scene.ASKS, (x, v) -> x.fewest(v, 0));
        EDGES.range("fewest from, of 1", 0, Scene.ASKS - 1, (x, v) -> x.fewest(v, 1));
        EDGES.range("fewest from, of 12", 0, Scene.ASKS - 12, (x, v) -> x.fewest(v, 12));
        EDGES.range("fewest n, from 20 on", 0, Scene.ASKS - 20, (x, v) -> x.fewest(20, v));
        EDGES.below("fewest n", 0, (x, v) -> x.fewest(0, v));
        EDGES.above("fewest n", Scene.ASKS, (x, v) -> x.fewest(0, v));
        EDGES.refused("both most", Check.BEYOND, x -> x.fewest(Integer.MAX_VALUE, Integer.MAX_VALUE));
        EDGES.refused("both least", Check.BEYOND, x -> x.fewest(Integer.MIN_VALUE, Integer.MIN_VALUE));
        EDGES.refused("from 1, n most", Check.BEYOND, x -> x.fewest(1, Integer.MAX_VALUE));
        EDGES.refused("from most, n 1", Check.BEYOND, x -> x.fewest(Integer.MAX_VALUE, 1));
    }

    /** "LARGE: n is above 12." (asked behind BEYOND). */
    private static void fewestAtMostTwelve() {
        EDGES.refused("13", Check.LARGE, x -> x.fewest(0, 13));
        EDGES.refused("the last 13", Check.LARGE, x -> x.fewest(Scene.ASKS - 13, 13));
        EDGES.refused("all", Check.LARGE, x -> x.fewest(0, Scene.ASKS));
        EDGES.refused("BEYOND ahead of LARGE: 13 of 12", Check.BEYOND, x -> x.fewest(Scene.ASKS - 12, 13));
        EDGES.refused("BEYOND ahead of LARGE: from -1", Check.BEYOND, x -> x.fewest(-1, 13));
        EDGES.refused("40 of 40", Check.LARGE, Scene::fillAsks, x -> x.fewest(0, 40));
        EDGES.refused("41 of 40", Check.BEYOND, Scene::fillAsks, x -> x.fewest(0, 41));
        EDGES.taken("the last 12 of 40", 1, Scene::fillAsks, x -> x.fewest(28, 12) > 0 ? 1 : 0);
        TownAsks x = new TownAsks();
        x.marks(1, 0, 0);
        for (int i = 0; i < 12; i++) {
            x.ask(1, i, 0, 0, 0);
        }
        CHECK.due("12 of which no two meet", x.fewest(0, 12), 12);
        x.marks(1, 11, 0);
        CHECK.due("12 of which any two meet", x.fewest(0, 12), 1);
        x.marks(1, 10, 0);
        CHECK.due("12 of which one pair does not", x.fewest(0, 12), 2);
    }

    private static void fewestOfNone() {
        EDGES.taken("none of them", 0, x -> x.fewest(0, 0));
        EDGES.taken("none at their end", 0, x -> x.fewest(Scene.ASKS, 0));
        EDGES.refused("none behind their end", Check.BEYOND, x -> x.fewest(Scene.ASKS + 1, 0));
        EDGES.taken("one", 1, x -> x.fewest(Scene.ASKS - 1, 1));
    }
}
