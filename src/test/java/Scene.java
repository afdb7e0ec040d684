/**
 * An object on which every act has something to tell, and a text of all that can be asked of it: by
 * that text an object after a refused call is held beside a twin on which the call was not tried.
 */
final class Scene {
    /** One or more calls on an object; what the last one answers. */
    interface Act {
        int on(TownAsks x);
    }

    static final Act NOTHING = x -> 0;

    /** The things 0 to 4 are of the kinds 0 to 4, and each is in another state. */
    static final int NOBODYS = 0;
    static final int CLOSED = 1;
    static final int LOOKED_AT = 2;
    static final int IN_A_RING = 3;
    static final int OPEN_AGAIN = 4;

    static final int ASKS = 25;
    static final int THINGS = 15;
    /** The day of things 0 to 9, and that of the latest ask. */
    static final int FIRST_DAY = 10;
    static final int LATEST_DAY = 24;
    static final int TAPE = 10;
    static final int ROWS = 6;

    /** Sheets: one of 8 bits, one that holds no places alone, one of 12 places, one that is missing. */
    static final int OF_8_BITS = 0;
    static final int NO_PLACES = 1;
    static final int PLACES = 2;
    static final int MISSING = 3;

    private static final int[][] BASE = {{2, 2}, {20, 4}, {4, 20}, {20, 20}, {24, 9}};
    private static final int PARTS = 5;

    private Scene() {
    }

    static TownAsks rich() {
        TownAsks x = new TownAsks();
        comeAsks(x);
        Check.useText(x, "a115;a229;a352;s534;s435;s223;");
        x.close(CLOSED, 30);
        x.close(LOOKED_AT, 31);
        x.look(LOOKED_AT, true);
        x.close(OPEN_AGAIN, 32);
        x.look(OPEN_AGAIN, false);
        x.effort(1, 7);
        x.effort(4, 2);
        x.walk(1, 900, 7);
        x.walk(2, 10, 7);
        x.sheet(OF_8_BITS, 8, 3);
        x.write(OF_8_BITS, 1, 77);
        x.sheet(NO_PLACES, 16, 4);
        x.write(NO_PLACES, 2, 1024);
        x.sheet(PLACES, 16, 12);
        x.write(PLACES, 5, 600);
        Check.feedAll(x, "a211;s214;");
        return x;
    }

    /**
     * Of each kind two asks that are just NEAR enough and two that are just not, and two pairs for
     * APART likewise: so any change of the marks of any kind is seen by meet.
     */
    private static void comeAsks(TownAsks x) {
        for (int kind = 0; kind < 5; kind++) {
            x.marks(kind, kind + 1, 5 + 2 * kind);
        }
        for (int step = 0; step < 3; step++) {
            for (int kind = 0; kind < 5; kind++) {
                int east = step == 1 ? kind + 1 : 0;
                int south = step == 2 ? kind + 2 : 0;
                x.ask(kind, BASE[kind][0] + east, BASE[kind][1] + south, 0, FIRST_DAY);
            }
        }
        for (int kind = 0; kind < 5; kind++) {
            x.ask(kind, BASE[kind][0], BASE[kind][1], 0, FIRST_DAY + 5 + 2 * kind);
            x.ask(kind, BASE[kind][0], BASE[kind][1], kind, FIRST_DAY + 6 + 2 * kind);
        }
    }

    /** Brings the asks to 40. */
    static int fillAsks(TownAsks x) {
        x.read(PLACES, 3, LATEST_DAY);
        x.ask(3, 0, 0, 0, LATEST_DAY);
        x.ask(3, 0, 0, 0, LATEST_DAY);
        return x.ask(3, 0, 0, 0, LATEST_DAY);
    }

    /** Brings the tape to 80 bytes. */
    static int fillTape(TownAsks x) {
        return Check.feedAll(x, "s001;".repeat(14));
    }

    /** All that can be asked after some acts; each part on an object of its own, for its 512 calls. */
    static String allAfter(Act... acts) {
        StringBuilder all = new StringBuilder();
        for (int part = 0; part < PARTS; part++) {
            TownAsks x = rich();
            for (Act act : acts) {
                act.on(x);
            }
            all.append("\n").append(part).append(": ");
            tell(part, x, all);
        }
        return all.toString();
    }

    private static void tell(int part, TownAsks x, StringBuilder all) {
        switch (part) {
            case 0 -> tellAsks(x, all);
            case 1 -> tellThings(x, all);
            case 2 -> tellMeetings(x, all);
            case 3 -> tellDesksAndCrews(x, all);
            default -> tellSheetsAndTape(x, all);
        }
    }

    private static void add(StringBuilder all, int answer) {
        all.append(answer).append(' ');
    }

    private static void tellAsks(TownAsks x, StringBuilder all) {
        for (int what = 0; what < 7; what++) {
            add(all, x.told(what));
        }
        for (int a = 0; a < 41; a++) {
            for (int what = 0; what < 7; what++) {
                add(all, x.of(a, what));
            }
        }
    }

    private static void tellThings(TownAsks x, StringBuilder all) {
        for (int t = 0; t < 20; t++) {
            for (int what = 0; what < 9; what++) {
                add(all, x.thing(t, what));
            }
            for (int i = 0; i < 5; i++) {
                add(all, x.asked(t, i));
            }
        }
    }

    private static void tellMeetings(TownAsks x, StringBuilder all) {
        for (int a = 0; a < ASKS; a++) {
            for (int b = 0; b < a; b++) {
                add(all, x.meet(a, b));
            }
        }
        add(all, x.fewest(0, 12));
        add(all, x.fewest(13, 12));
    }

    private static void tellDesksAndCrews(TownAsks x, StringBuilder all) {
        for (int t = 0; t < 20; t++) {
            add(all, x.whose(t));
            add(all, x.promise(t));
            add(all, x.sent(t));
        }
        for (int quarter = 0; quarter < 4; quarter++) {
            for (int what = 0; what < 5; what++) {
                add(all, x.quarter(quarter, what));
            }
        }
        for (int what = 0; what < 8; what++) {
            add(all, x.order(0, 63, 100, 12, what));
        }
        for (int kind = 0; kind < 5; kind++) {
            add(all, x.effort(kind, 1));
        }
        // Which desk closed a thing is seen as it is looked at.
        for (int t = 0; t < 20; t++) {
            add(all, x.look(t, false));
        }
        for (int desk = 0; desk < 6; desk++) {
            for (int what = 0; what < 4; what++) {
                add(all, x.closings(desk, what));
            }
        }
    }

    private static void tellSheetsAndTape(TownAsks x, StringBuilder all) {
        for (int s = 0; s < 4; s++) {
            for (int i = 0; i < 13; i++) {
                add(all, x.write(s, i, -1));
            }
            // How many bits a number has is seen by what they leave of one that has many.
            add(all, x.write(s, 0, 0x12345678));
            add(all, x.write(s, 0, 0));
        }
        add(all, x.text());
        add(all, x.told(3));
        for (int t = 0; t < 20; t++) {
            add(all, x.whose(t));
            add(all, x.promise(t));
            add(all, x.sent(t));
        }
    }
}
