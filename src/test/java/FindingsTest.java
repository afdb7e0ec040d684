/**
 * An act that answers a finding changes nothing but what told(7) tells: after each finding of each
 * act an object is, in all that can be asked of it, like a twin on which the act was not tried.
 */
public final class FindingsTest {
    private static final Check CHECK = new Check("FindingsTest");

    private interface Act {
        int on(TownAsks x);
    }

    public static void main(String[] args) {
        asks();
        thingsAndDesks();
        crewsAndClosings();
        quartersAndSheets();
        full();
        wrongTextEmptiesTheTape();
        answersThatOnlyTell();
        CHECK.finish();
    }

    /** Things 0 (closed), 1 (closed and looked at), 2 (open again), 3 (in a ring), 4 (nobody's). */
    private static TownAsks rich() {
        TownAsks x = new TownAsks();
        Check.useText(x, "a101;a229;s512;s213;a352;s033;s330;a303;");
        x.marks(1, 3, 20);
        x.ask(1, 5, 5, 0, 10);
        x.ask(1, 20, 5, 2, 10);
        x.ask(2, 5, 20, 1, 11);
        Check.useText(x, "a101;a229;s512;s213;a302;s033;s330;");
        x.ask(3, 20, 20, 0, 12);
        x.ask(0, 5, 5, 0, 12);
        x.ask(2, 5, 21, 1, 13);
        for (int i = 0; i < 9; i++) {
            x.ask(1, 5 + 2 * i, 9, i % 3, 14 + i);
        }
        x.close(0, 20);
        x.close(1, 21);
        x.look(1, true);
        x.close(2, 22);
        x.look(2, false);
        x.effort(1, 7);
        x.walk(1, 900, 7);
        x.walk(2, 10, 7);
        x.sheet(0, 8, 3);
        x.write(0, 1, 77);
        x.sheet(1, 16, 4);
        x.write(1, 2, 1024);
        x.sheet(2, 16, 12);
        x.write(2, 5, 600);
        Check.feedAll(x, "a211;s214;");
        return x;
    }

    private static void finds(String call, int want, Act act) {
        TownAsks x = rich();
        TownAsks twin = rich();
        int before = x.told(7);
        CHECK.due(call, act.on(x), want);
        CHECK.due(call + " is counted", x.told(7), before + 1);
        CHECK.dueText("after " + call, allOf(x), allOf(twin));
    }

    private static void finds(String call, Act act) {
        finds(call, Check.BEYOND, act);
    }

    /** All that can be asked of an object; it is not to be used on after this. */
    private static String allOf(TownAsks x) {
        StringBuilder all = new StringBuilder();
        for (int what = 0; what < 7; what++) {
            all.append(x.told(what)).append(' ');
        }
        int askCount = x.told(0);
        for (int a = 0; a < askCount; a++) {
            for (int what = 0; what < 7; what++) {
                all.append(x.of(a, what)).append(' ');
            }
            for (int b = 0; b < askCount; b++) {
                all.append(a == b ? 2 : x.meet(a, b));
            }
        }
        for (int t = 0; t < x.told(1); t++) {
            for (int what = 0; what < 9; what++) {
                all.append(x.thing(t, what)).append(' ');
            }
            all.append(x.whose(t)).append(x.promise(t)).append(x.sent(t)).append(' ');
        }
        for (int i = 0; i < 6; i++) {
            for (int what = 0; what < 5; what++) {
                all.append(x.closings(i, what)).append(' ').append(x.quarter(i, what)).append(' ');
            }
        }
        for (int what = 0; what < 8; what++) {
            all.append(x.order(0, 63, 100, 12, what)).append(' ');
        }
        for (int kind = 0; kind < 5; kind++) {
            all.append(x.effort(kind, 1)).append(' ');
        }
        sheetsAndTape(x, all);
        return all.toString();
    }

    private static void sheetsAndTape(TownAsks x, StringBuilder all) {
        for (int s = 0; s < 4; s++) {
            for (int i = 0; i <= 12; i++) {
                all.append(x.write(s, i, -1)).append(' ');
            }
            all.append(x.write(s, 0, 0)).append(' ');
        }
        all.append(x.text()).append(' ').append(x.told(3));
        for (int t = 0; t < x.told(1); t++) {
            all.append(' ').append(x.whose(t)).append(' ').append(x.look(t, true));
        }
    }

    private static void asks() {
        finds("ask kind", x -> x.ask(5, 5, 5, 0, 30));
        finds("ask x", x -> x.ask(1, 32, 5, 0, 30));
        finds("ask y", x -> x.ask(1, 5, 32, 0, 30));
        finds("ask doubt", x -> x.ask(1, 5, 5, 10, 30));
        finds("ask day", x -> x.ask(1, 5, 5, 0, 1000));
        finds("ask earlier", x -> x.ask(1, 5, 5, 0, 21));
        finds("marks kind", x -> x.marks(5, 1, 1));
        finds("marks near", x -> x.marks(1, 21, 1));
        finds("marks apart", x -> x.marks(1, 1, 100));
        finds("meet", x -> x.meet(0, 0));
        finds("of", x -> x.of(0, 7));
        finds("as", x -> x.as(0, 5));
        finds("as of another kind", Check.KIND, x -> x.as(0, 2));
        finds("fewest", x -> x.fewest(4, 12));
        finds("fewest of many", Check.LARGE, x -> x.fewest(0, 13));
    }

    private static void thingsAndDesks() {
        finds("thing", x -> x.thing(0, 9));
        finds("asked", x -> x.asked(0, -1));
        finds("feed", x -> x.feed(7, 9));
        finds("whose", x -> x.whose(40));
        finds("whose nobody's", Check.NONE, x -> x.whose(4));
        finds("whose ring", Check.RING, x -> x.whose(3));
        finds("promise", x -> x.promise(40));
        finds("promise nobody's", Check.NONE, x -> x.promise(4));
        finds("sent", x -> x.sent(40));
        finds("sent nobody's", Check.NONE, x -> x.sent(4));
    }

    private static void crewsAndClosings() {
        finds("effort hours", x -> x.effort(1, 41));
        finds("effort kind", x -> x.effort(5, 40));
        finds("order", x -> x.order(0, 0, 0, 0, 0));
        finds("order of many", Check.LARGE, x -> x.order(0, 127, 0, 0, 0));
        finds("close", x -> x.close(2, 1000));
        finds("close closed", Check.STATE, x -> x.close(0, 100));
        finds("close early", Check.STATE, x -> x.close(2, 10));
        finds("close nobody's", Check.NONE, x -> x.close(4, 100));
        finds("close in a ring", Check.RING, x -> x.close(3, 100));
        finds("look", x -> x.look(40, true));
        finds("look at an open one", Check.STATE, x -> x.look(2, false));
        finds("look twice", Check.STATE, x -> x.look(1, false));
        finds("closings", x -> x.closings(0, 4));
    }

    private static void quartersAndSheets() {
        finds("walk", x -> x.walk(1, 5, 6));
        finds("walk many", x -> x.walk(1, 1001, 6));
        finds("quarter", x -> x.quarter(0, 5));
        finds("quarter by none", Check.NONE, x -> x.quarter(1, 4));
        finds("sheet bits", x -> x.sheet(0, 4, 3));
        finds("sheet below 0", Check.SIZE, x -> x.sheet(0, 8, -1));
        finds("sheet of 13", x -> x.sheet(0, 8, 13));
        finds("write", x -> x.write(0, 3, 1));
        finds("write missing", Check.MISSING, x -> x.write(3, 0, 1));
        finds("copy from no sheet", x -> x.copy(4, 0, 0, 0, 1));
        finds("copy missing", Check.MISSING, x -> x.copy(0, 0, 3, 0, 1));
        finds("copy of other bits", Check.KIND, x -> x.copy(0, 0, 1, 0, 1));
        finds("copy too many", x -> x.copy(2, 0, 1, 1, 4));
        finds("read day", x -> x.read(2, 1, 21));
        finds("read missing", Check.MISSING, x -> x.read(3, 1, 30));
        finds("read no place", x -> x.read(1, 1, 30));
        finds("told", x -> x.told(8));
    }

    private static void full() {
        finds("read full", Check.FULL, x -> {
            x.read(2, 3, 30);
            x.read(2, 3, 30);
            return x.read(2, 1, 31);
        }, x -> x.read(2, 3, 30) + x.read(2, 3, 30));
        finds("ask full", Check.FULL, x -> {
            x.read(2, 3, 30);
            x.read(2, 3, 30);
            x.ask(3, 0, 0, 0, 30);
            return x.ask(1, 1, 1, 1, 31);
        }, x -> x.read(2, 3, 30) + x.read(2, 3, 30) + x.ask(3, 0, 0, 0, 30));
        finds("feed full", Check.FULL, x -> {
            Check.feedAll(x, "s001;".repeat(14));
            return x.feed(7, 1);
        }, x -> Check.feedAll(x, "s001;".repeat(14)));
    }

    private static void finds(String call, int want, Act act, Act onTwin) {
        TownAsks x = rich();
        TownAsks twin = rich();
        onTwin.on(twin);
        CHECK.due(call, act.on(x), want);
        CHECK.due(call + " is counted", x.told(7), twin.told(7) + 1);
        CHECK.dueText("after " + call, allOf(x), allOf(twin));
    }

    private static void wrongTextEmptiesTheTape() {
        TownAsks x = rich();
        TownAsks twin = rich();
        Check.feedAll(x, "a");
        CHECK.due("wrong text", x.text(), Check.wrongAt(11));
        CHECK.due("tape", x.told(4), 0);
        CHECK.due("rows", x.told(3), twin.told(3));
        for (int t = 0; t < 5; t++) {
            CHECK.due("whose(" + t + ")", x.whose(t), twin.whose(t));
        }
        CHECK.due("empty text", x.text(), 0);
    }

    /** Acts that only tell leave all as it was, told(7) too. */
    private static void answersThatOnlyTell() {
        TownAsks x = rich();
        TownAsks twin = rich();
        x.meet(0, 1);
        x.of(0, 5);
        x.as(0, 0);
        x.fewest(0, 12);
        x.thing(0, 5);
        x.asked(0, 9);
        x.whose(0);
        x.promise(3);
        x.sent(3);
        x.order(0, 63, 1023, 500, 99);
        x.closings(0, 3);
        x.quarter(0, 4);
        x.copy(2, 1, 2, 1, 3);
        CHECK.due("findings", x.told(7), twin.told(7));
        CHECK.dueText("after acts that only tell", allOf(x), allOf(twin));
    }
}
