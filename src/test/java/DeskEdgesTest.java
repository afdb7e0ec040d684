/** The boundary cases of promises 8 to 14 and of number 3 of the terms, sentence by sentence. */
public final class DeskEdgesTest {
    private static final Check CHECK = new Check("DeskEdgesTest");
    private static final Edges EDGES = new Edges(CHECK);

    public static void main(String[] args) {
        thingWithinItsRanges();
        thingClosedLatest();
        askedWithinItsRanges();
        askedBehindTheLast();
        feedOfOneToEight();
        feedOfEightyBytes();
        beyondAheadOfFull();
        feedLowestFirst();
        rowsOfAnA();
        rowsOfAnS();
        thirdDigitThatIsTheFirst();
        twelveRows();
        endsInTheMidst();
        firstOfTwoWrongBytes();
        emptyTape();
        wrongTextStays();
        textInPlaceOfThatWhichWas();
        noSuchThing();
        nobodys();
        ownKindAheadOfThoseAbove();
        promisedDays();
        longestWay();
        rings();
        CHECK.finish();
    }

    /** "BEYOND: no such THING, or another what." */
    private static void thingWithinItsRanges() {
        for (int what = 0; what <= 8; what++) {
            int told = what;
            EDGES.range("thing t, what " + what, 0, Scene.THINGS - 1, (x, v) -> x.thing(v, told));
        }
        EDGES.range("thing what", 0, 8, (x, v) -> x.thing(Scene.THINGS - 1, v));
        EDGES.refused("thing of neither", Check.BEYOND, x -> x.thing(Scene.THINGS, 9));
        TownAsks x = new TownAsks();
        x.marks(0, 0, 0);
        for (int i = 0; i < 40; i++) {
            x.ask(0, i % 32, i / 32, 0, 7);
        }
        int[] last = {0, 7, 1, 7, 1, 1, 0, -1, 0};
        for (int what = 0; what < last.length; what++) {
            CHECK.due("the 40th thing, what " + what, x.thing(39, what), last[what]);
        }
        CHECK.due("behind the 40th", x.thing(40, 0), Check.BEYOND);
    }

    /** "the DAY on which it was CLOSED latest (-1: never)"; "CLOSED and was LOOKED at since". */
    private static void thingClosedLatest() {
        TownAsks x = new TownAsks();
        Check.useText(x, "a011;");
        x.ask(1, 0, 0, 0, 0);
        state("never", x, 1, 0, -1, 0);
        x.close(0, 0);
        state("on day 0", x, 0, 1, 0, 0);
        x.look(0, false);
        state("open again", x, 1, 1, 0, 0);
        x.close(0, 999);
        state("on day 999", x, 0, 2, 999, 0);
        x.look(0, false);
        x.close(0, 5);
        state("anew, on a day between", x, 0, 3, 5, 0);
        x.look(0, true);
        state("looked at since", x, 0, 3, 5, 1);
    }

    private static void state(String when, TownAsks x, int... want) {
        for (int i = 0; i < want.length; i++) {
            CHECK.due(when + ": thing(0, " + (5 + i) + ")", x.thing(0, 5 + i), want[i]);
        }
    }

    /** "BEYOND: no such THING, or i is below 0." */
    private static void askedWithinItsRanges() {
        EDGES.range("asked t", 0, Scene.THINGS - 1, (x, v) -> x.asked(v, 0));
        EDGES.range("asked t, behind the last", 0, Scene.THINGS - 1, (x, v) -> x.asked(v, 99));
        EDGES.below("asked i", 0, (x, v) -> x.asked(0, v));
        EDGES.refused("asked of neither", Check.BEYOND, x -> x.asked(-1, -1));
    }

    /** "-1 behind the last one (no finding)". Thing 0 has the asks 0, 5 and 15. */
    private static void askedBehindTheLast() {
        EDGES.taken("the first", 0, x -> x.asked(0, 0));
        EDGES.taken("the last", 15, x -> x.asked(0, 2));
        EDGES.taken("behind it", -1, x -> x.asked(0, 3));
        EDGES.taken("far behind it", -1, x -> x.asked(0, Integer.MAX_VALUE));
    }

    /** "BEYOND: n is not 1 to 8." */
    private static void feedOfOneToEight() {
        EDGES.range("feed n", 1, 8, (x, v) -> x.feed(-1L, v));
        for (int n = 1; n <= 8; n++) {
            int bytes = n;
            EDGES.taken("feed of " + n, Scene.TAPE + n, x -> x.feed(0, bytes));
        }
    }

    /** "FULL: there would be more than 80." */
    private static void feedOfEightyBytes() {
        for (int n = 1; n <= 8; n++) {
            int bytes = n;
            EDGES.taken(n + " to 80", 80, x -> fillTo(x, 80 - bytes), x -> x.feed(0, bytes));
            EDGES.refused(n + " to 81", Check.FULL, x -> fillTo(x, 81 - bytes), x -> x.feed(-1L, bytes));
        }
        EDGES.taken("after a FULL, one less", 80, x -> fillTo(x, 79) + x.feed(0, 2), x -> x.feed(0, 1));
        EDGES.taken("the tape of 80 is empty then", 8, x -> Scene.fillTape(x) + x.text(), x -> x.feed(0, 8));
    }

    private static int fillTo(TownAsks x, int bytes) {
        return Check.feedAll(x, "s001;".repeat(16).substring(Scene.TAPE, bytes));
    }

    private static void beyondAheadOfFull() {
        EDGES.refused("full, n 0", Check.BEYOND, Scene::fillTape, x -> x.feed(0, 0));
        EDGES.refused("full, n 9", Check.BEYOND, Scene::fillTape, x -> x.feed(0, 9));
        EDGES.refused("full, n -1", Check.BEYOND, Scene::fillTape, x -> x.feed(0, -1));
        EDGES.refused("full, n most", Check.BEYOND, Scene::fillTape, x -> x.feed(0, Integer.MAX_VALUE));
        EDGES.refused("full, n 1", Check.FULL, Scene::fillTape, x -> x.feed(0, 1));
    }

    /** "The n lowest bytes of w, the lowest first". */
    private static void feedLowestFirst() {
        String row = "s501;a13";
        for (int n = 1; n <= 8; n++) {
            long w = -1L;
            for (int i = n - 1; i >= 0; i--) {
                w = w << 8 | row.charAt(i);
            }
            TownAsks x = new TownAsks();
            CHECK.due(n + " bytes", x.feed(w, n), n);
            CHECK.due("are " + row.substring(0, n), x.text(), n == 5 ? 1 : Check.wrongAt(n));
        }
        TownAsks x = new TownAsks();
        x.feed(0x61L | 0x80L << 8, 2);
        CHECK.due("a byte above 127", x.text(), Check.wrongAt(1));
        x.feed(0x161L, 1);
        CHECK.due("the ninth bit is not of it", x.text(), Check.wrongAt(1));
        x.feed(0x3B31303061L + 0x100000000L * 0x100, 5);
        CHECK.due("nor is the sixth byte", x.text(), 1);
    }

    private static void text(String text, int want) {
        TownAsks x = new TownAsks();
        CHECK.due(text, Check.useText(x, text), want);
        CHECK.due("tape after " + text, x.told(4), 0);
        CHECK.due("rows after " + text, x.told(3), Math.max(want, 0));
        CHECK.due("findings after " + text, x.told(7), want < 0 ? 1 : 0);
    }

    /** "Letter a: .. the first digit (0 to 4 ..) .. the second one (0 to 5) .. the third one (1 to 9)". */
    private static void rowsOfAnA() {
        String[] good = {"a001;", "a401;", "a051;", "a009;", "a459;", "a111;"};
        for (String row : good) {
            text(row, 1);
        }
        String[] bad = {"a/01;", "a501;", "a0/1;", "a061;", "a00/;", "a000;", "a00:;", "a001:", "a001<", "b001;", "`001;", "A001;"};
        int[] place = {1, 1, 2, 2, 3, 3, 3, 4, 4, 0, 0, 0};
        for (int i = 0; i < bad.length; i++) {
            text(bad[i], Check.wrongAt(place[i]));
            text("s011;" + bad[i], Check.wrongAt(5 + place[i]));
        }
    }

    /** "Letter s: .. the first digit (0 to 5) .. the second one (0 to 3) .. the third one (0 to 5, ..)". */
    private static void rowsOfAnS() {
        String[] good = {"s001;", "s500;", "s031;", "s005;", "s534;", "s110;"};
        for (String row : good) {
            text(row, 1);
        }
        String[] bad = {"s/01;", "s601;", "s0/1;", "s041;", "s00/;", "s006;", "s001:", "s001<", "r001;", "t001;", "S001;"};
        int[] place = {1, 1, 2, 2, 3, 3, 4, 4, 0, 0, 0};
        for (int i = 0; i < bad.length; i++) {
            text(bad[i], Check.wrongAt(place[i]));
            text("a451;" + bad[i], Check.wrongAt(5 + place[i]));
        }
    }

    /** "(0 to 5, another one)", "of a third digit that is the first one, too": of an s alone. */
    private static void thirdDigitThatIsTheFirst() {
        for (int first = 0; first < 6; first++) {
            for (int third = 0; third < 6; third++) {
                text("s" + first + "2" + third + ";", first == third ? Check.wrongAt(3) : 1);
            }
            text("s" + first + "2" + first, Check.wrongAt(3));
        }
        for (int digit = 1; digit < 5; digit++) {
            text("a" + digit + "0" + digit + ";", 1);
        }
        // The second digit is a quarter, so it may be either of the others.
        text("s221;", 1);
        text("s122;", 1);
    }

    /** "(at most 12 rows)", "of a 13th letter, too". */
    private static void twelveRows() {
        String twelve = "a001;".repeat(6) + "s001;".repeat(6);
        text(twelve, 12);
        for (String more : new String[] {"a", "s", "x", ";", "a001;", "s001;", "a001;s001;a001;s001;"}) {
            text(twelve + more, Check.wrongAt(60));
        }
        text(twelve.substring(0, 59), Check.wrongAt(59));
        text(twelve.substring(0, 59) + "a", Check.wrongAt(59));
        text(twelve.substring(0, 59) + ":a001;", Check.wrongAt(59));
        text(twelve.substring(0, 55), 11);
        TownAsks x = new TownAsks();
        x.ask(1, 0, 0, 0, 0);
        Check.useText(x, "s001;".repeat(11) + "a153;");
        CHECK.due("the 12th row is read", x.whose(0), 5);
        CHECK.due("its days, too", x.promise(0), 3);
    }

    /** "the length if the text ends in the midst". */
    private static void endsInTheMidst() {
        String rows = "a451;s534;a009;";
        for (int length = 0; length <= rows.length(); length++) {
            text(rows.substring(0, length), length % 5 == 0 ? length / 5 : Check.wrongAt(length));
        }
    }

    /** "the place of the first byte that can't stand there": ahead of the end and of later ones. */
    private static void firstOfTwoWrongBytes() {
        text("a9x", Check.wrongAt(1));
        text("xx", Check.wrongAt(0));
        text("a001;x001;a9", Check.wrongAt(5));
        text("a00;1", Check.wrongAt(3));
        text("a001a001;", Check.wrongAt(4));
        text("x" + "a001;".repeat(13), Check.wrongAt(0));
    }

    private static void emptyTape() {
        EDGES.taken("text of an empty tape", 0, x -> x.text(), x -> x.text());
        TownAsks x = Scene.rich();
        x.text();
        x.text();
        CHECK.due("it is of no rows", x.told(3), 0);
        CHECK.due("all is nobody's", x.whose(Scene.CLOSED), Check.NONE);
    }

    /** "WRONG: THE TEXT stays. The tape is empty then, whatever is answered." */
    private static void wrongTextStays() {
        String before = Scene.allAfter(x -> x.text());
        TownAsks twin = Scene.rich();
        for (String end : new String[] {"a", "a5", "x", "s01", "s0211", "a001"}) {
            TownAsks x = Scene.rich();
            int findings = x.told(7);
            Check.feedAll(x, end);
            CHECK.due("wrong by " + end, x.text() <= Check.wrongAt(Scene.TAPE) ? 1 : 0, 1);
            CHECK.due("is counted", x.told(7), findings + 1);
            CHECK.due("the tape is empty", x.told(4), 0);
            CHECK.due("the rows stay", x.told(3), Scene.ROWS);
            for (int t = 0; t < Scene.THINGS; t++) {
                CHECK.due("whose " + t, x.whose(t), twin.whose(t));
                CHECK.due("promise " + t, x.promise(t), twin.promise(t));
                CHECK.due("sent " + t, x.sent(t), twin.sent(t));
            }
            // All but the tape is as it was: with the scene's bytes fed anew nothing tells them apart.
            String after = Scene.allAfter(y -> Check.feedAll(y, end), y -> y.text(),
                    y -> Check.feedAll(y, "a211;s214;"), y -> y.text());
            CHECK.dueText("all after " + end, after, before);
        }
    }

    /** "(in place of that which was)". */
    private static void textInPlaceOfThatWhichWas() {
        TownAsks x = new TownAsks();
        x.ask(1, 0, 0, 0, 0);
        x.ask(2, 0, 0, 0, 0);
        Check.useText(x, "s501;a151;a252;");
        CHECK.due("sent on", x.whose(0), 1);
        CHECK.due("a shorter one", Check.useText(x, "a154;"), 1);
        CHECK.due("no row of the other", x.whose(0), 5);
        CHECK.due("nor for the other thing", x.whose(1), Check.NONE);
        CHECK.due("its days", x.promise(0), 4);
    }

    /** "BEYOND." of whose, promise and sent. */
    private static void noSuchThing() {
        // Things 1 and 11 are HOLEs, so somebody's.
        for (int t : new int[] {1, 11}) {
            EDGES.taken("whose " + t, 1, x -> x.whose(t));
            EDGES.taken("sent " + t, 0, x -> x.sent(t));
        }
        EDGES.below("whose", 0, (x, v) -> x.whose(v));
        EDGES.above("whose", Scene.THINGS - 1, (x, v) -> x.whose(v));
        EDGES.below("promise", 0, (x, v) -> x.promise(v));
        EDGES.above("promise", Scene.THINGS - 1, (x, v) -> x.promise(v));
        EDGES.below("sent", 0, (x, v) -> x.sent(v));
        EDGES.above("sent", Scene.THINGS - 1, (x, v) -> x.sent(v));
        EDGES.taken("whose the last", 2, x -> x.whose(Scene.THINGS - 1));
        EDGES.taken("promise of the last", Scene.LATEST_DAY + 9, x -> x.promise(Scene.THINGS - 1));
        EDGES.taken("sent of the last", 0, x -> x.sent(Scene.THINGS - 1));
    }

    /** "without any it is NOBODY's": NONE. */
    private static void nobodys() {
        EDGES.refused("whose nobody's", Check.NONE, x -> x.whose(Scene.NOBODYS));
        EDGES.refused("promise of nobody's", Check.NONE, x -> x.promise(Scene.NOBODYS));
        EDGES.refused("sent of nobody's", Check.NONE, x -> x.sent(Scene.NOBODYS));
        EDGES.refused("whose in a ring", Check.RING, x -> x.whose(Scene.IN_A_RING));
        TownAsks x = new TownAsks();
        x.ask(2, 0, 0, 0, 0);
        Check.useText(x, "a411;a111;a311;s001;");
        CHECK.due("a row for a kind under it is not for it", x.whose(0), Check.NONE);
        Check.useText(x, "s001;s102;");
        CHECK.due("rows with an s alone", x.whose(0), Check.NONE);
        CHECK.due("sent by none", x.sent(0), Check.NONE);
    }

    /** "the first one in THE TEXT whose KIND is the THING's own; .. for the KIND above that; and so on". */
    private static void ownKindAheadOfThoseAbove() {
        String[] texts = {"a019;a228;a437;a446;", "a019;a228;a247;", "a019;a058;a137;a327;", "a446;a437;a228;a019;"};
        int[] desk = {3, 2, 1, 4};
        int[] due = {7, 8, 9, 6};
        for (int i = 0; i < texts.length; i++) {
            TownAsks x = new TownAsks();
            x.ask(4, 0, 0, 0, 0);
            Check.useText(x, texts[i]);
            CHECK.due("whose by " + texts[i], x.whose(0), desk[i]);
            CHECK.due("promise by " + texts[i], x.promise(0), due[i]);
        }
    }

    /** "PROMISED in as many days as the third one tells (1 to 9)", from the thing's day on. */
    private static void promisedDays() {
        for (int day : new int[] {0, 999}) {
            TownAsks x = new TownAsks();
            x.ask(1, 0, 0, 0, day);
            x.ask(2, 0, 0, 0, day);
            Check.useText(x, "a101;a209;");
            CHECK.due("1 day from " + day, x.promise(0), day + 1);
            CHECK.due("9 days from " + day, x.promise(1), day + 9);
        }
        TownAsks x = new TownAsks();
        Check.useText(x, "a001;");
        x.ask(1, 0, 0, 0, 3);
        x.ask(1, 0, 0, 0, 9);
        CHECK.due("from the first ask's day", x.promise(0), 4);
    }

    private static void way(String text, int whose, int sent) {
        TownAsks x = new TownAsks();
        x.ask(1, 31, 0, 0, 2);
        Check.useText(x, text);
        CHECK.due("whose by " + text, x.whose(0), whose);
        CHECK.due("sent by " + text, x.sent(0), sent);
        CHECK.due("promise by " + text, x.promise(0), 5);
        CHECK.due("findings by " + text, x.told(7), whose < 0 ? 1 : 0);
    }

    /** "till there is no such row: that DESK's it is". */
    private static void longestWay() {
        way("a003;", 0, 0);
        way("a003;s001;s021;s031;", 0, 0);
        way("a003;s011;", 1, 1);
        way("s415;s314;s213;s112;s011;a003;", 5, 5);
        way("s415;s314;s213;s112;s011;a003;s501;s521;s531;", 5, 5);
        way("a053;s514;s411;s113;s310;s012;", 2, 5);
    }

    /** "If it comes to a DESK twice it is in a RING." "(RING: till it comes to a DESK twice)". */
    private static void rings() {
        way("a003;s011;s110;", Check.RING, 2);
        way("a003;s011;s112;s211;", Check.RING, 3);
        way("a003;s011;s112;s213;s314;s415;s510;", Check.RING, 6);
        way("a003;s011;s112;s213;s314;s415;s514;", Check.RING, 6);
        way("a003;s011;s112;s110;", 2, 2);
        way("a003;s011;s120;s100;s130;", 1, 1);
        way("a003;s112;s211;", 0, 0);
    }
}
