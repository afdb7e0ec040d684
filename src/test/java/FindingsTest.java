import java.util.Set;
import java.util.TreeSet;

/**
 * That an act which answers a finding changes nothing is tested by Edges.refused, at each edge. Here:
 * the text by which two objects are held side by side there sees each change that an act can make,
 * each act has each of its findings, and acts that only tell change nothing.
 */
public final class FindingsTest {
    private static final Check CHECK = new Check("FindingsTest");
    private static final int LATEST = Scene.LATEST_DAY;

    public static void main(String[] args) {
        asksAndMarksAreSeen();
        desksAndCrewsAreSeen();
        closingsAreSeen();
        quartersAndSheetsAreSeen();
        eachFindingIsItsNumber();
        answersThatOnlyTell();
        CHECK.finish();
    }

    private static void seen(String call, Scene.Act act) {
        boolean same = Scene.allAfter(act).equals(Scene.allAfter());
        CHECK.due(call + " is seen", same ? 0 : 1, 1);
    }

    private static void asksAndMarksAreSeen() {
        for (int kind = 0; kind < 5; kind++) {
            int of = kind;
            seen("less NEAR of " + kind, x -> x.marks(of, of, 5 + 2 * of));
            seen("more NEAR of " + kind, x -> x.marks(of, of + 2, 5 + 2 * of));
            seen("less APART of " + kind, x -> x.marks(of, of + 1, 4 + 2 * of));
            seen("more APART of " + kind, x -> x.marks(of, of + 1, 6 + 2 * of));
            seen("an ask of " + kind, x -> x.ask(of, 2, 2, 0, LATEST));
        }
        seen("a day", x -> x.ask(0, 2, 2, 0, LATEST + 1));
        seen("a read", x -> x.read(Scene.OF_8_BITS, 1, LATEST));
    }

    private static void desksAndCrewsAreSeen() {
        seen("a byte", x -> x.feed(0, 1));
        seen("a text", x -> x.text());
        seen("an empty text", x -> x.text() + x.text());
        for (int kind = 0; kind < 5; kind++) {
            int of = kind;
            seen("effort of " + kind, x -> x.effort(of, 3));
        }
    }

    private static void closingsAreSeen() {
        seen("a closing", x -> x.close(Scene.OPEN_AGAIN, 32));
        seen("a closing of the last thing", x -> x.close(Scene.THINGS - 1, 500));
        seen("a look", x -> x.look(Scene.CLOSED, true));
        seen("a false one", x -> x.look(Scene.CLOSED, false));
    }

    private static void quartersAndSheetsAreSeen() {
        for (int quarter = 0; quarter < 4; quarter++) {
            int in = quarter;
            seen("walkers in " + quarter, x -> x.walk(in, 100, 71));
        }
        for (int s = 0; s < 4; s++) {
            int of = s;
            seen("a new sheet " + s, x -> x.sheet(of, 32, 5));
        }
        seen("other bits", x -> x.sheet(Scene.OF_8_BITS, 16, 3) + x.write(Scene.OF_8_BITS, 1, 77));
        seen("a missing sheet", x -> x.sheet(Scene.PLACES, 0, 0));
        seen("a first number", x -> x.write(Scene.OF_8_BITS, 0, 1));
        seen("a last number", x -> x.write(Scene.PLACES, 11, 1));
        seen("a copy", x -> x.copy(Scene.PLACES, 5, Scene.NO_PLACES, 3, 1));
        seen("a copy on one sheet", x -> x.copy(Scene.PLACES, 5, Scene.PLACES, 6, 1));
    }

    /** "-1000001 BEYOND, -1000002 FULL, .. -1000009 SIZE, and -1000100 less WRONG". */
    private static void eachFindingIsItsNumber() {
        Set<Integer> got = new TreeSet<>();
        got.add(Scene.rich().told(8));
        TownAsks full = Scene.rich();
        Scene.fillAsks(full);
        got.add(full.ask(0, 0, 0, 0, LATEST));
        got.add(Scene.rich().as(0, 1));
        got.add(Scene.rich().whose(Scene.NOBODYS));
        got.add(Scene.rich().close(Scene.CLOSED, 999));
        got.add(Scene.rich().fewest(0, 13));
        got.add(Scene.rich().whose(Scene.IN_A_RING));
        got.add(Scene.rich().write(Scene.MISSING, 0, 0));
        got.add(Scene.rich().sheet(0, 8, -1));
        got.add(Check.useText(new TownAsks(), "x"));
        got.add(Check.useText(new TownAsks(), "a001;".repeat(12) + "x"));
        CHECK.dueText("findings", got.toString(), "[-1000160, -1000100, -1000009, -1000008, -1000007,"
                + " -1000006, -1000005, -1000004, -1000003, -1000002, -1000001]");
    }

    /** Acts that only tell leave all as it was, told(7) too. */
    private static void answersThatOnlyTell() {
        Scene.Act tells = x -> x.meet(0, 1) + x.of(0, 5) + x.as(0, 0) + x.fewest(0, 12) + x.thing(0, 5)
                + x.asked(0, 9) + x.whose(1) + x.promise(3) + x.sent(3) + x.order(0, 63, 1023, 500, 99)
                + x.closings(0, 3) + x.quarter(0, 4) + x.copy(2, 1, 2, 1, 3) + x.told(7);
        TownAsks x = Scene.rich();
        tells.on(x);
        CHECK.due("findings", x.told(7), 0);
        CHECK.dueText("all after acts that only tell", Scene.allAfter(tells), Scene.allAfter());
    }
}
