/** Promises 10 to 14: feed, text, whose, promise, sent. */
public final class DesksTest {
    private static final Check CHECK = new Check("DesksTest");

    public static void main(String[] args) {
        feedTakesTheLowestBytes();
        feedEdges();
        textRows();
        textWrong();
        textOfTwelveRows();
        everyByteOfARow();
        whoseByKind();
        whoseSentOn();
        whoseInARing();
        quartersLeadApart();
        noSuchThing();
        CHECK.finish();
    }

    private static void feedTakesTheLowestBytes() {
        TownAsks x = new TownAsks();
        CHECK.due("one byte of eight", x.feed(0x7878787878787861L, 1), 1);
        CHECK.due("told(4)", x.told(4), 1);
        CHECK.due("four more", x.feed(0x783B313230L, 4), 5);
        CHECK.due("a021;", x.text(), 1);
        CHECK.due("told(4) after text", x.told(4), 0);
        CHECK.due("eight", x.feed(0x3432733B31333061L, 8), 8);
        CHECK.due("two", x.feed(0x3B35L, 2), 10);
        CHECK.due("a031;s245; is wrong at 7", x.text(), Check.wrongAt(7));
        CHECK.due("all bits", x.feed(-1L, 8), 8);
        CHECK.due("byte 255", x.text(), Check.wrongAt(0));
    }

    private static void feedEdges() {
        TownAsks x = new TownAsks();
        CHECK.due("n 0", x.feed(1, 0), Check.BEYOND);
        CHECK.due("n 9", x.feed(1, 9), Check.BEYOND);
        CHECK.due("n -1", x.feed(1, -1), Check.BEYOND);
        CHECK.due("n least", x.feed(1, Integer.MIN_VALUE), Check.BEYOND);
        for (int i = 1; i <= 9; i++) {
            CHECK.due("feed", x.feed(0, 8), 8 * i);
        }
        CHECK.due("79", x.feed(0, 7), 79);
        CHECK.due("81", x.feed(0, 2), Check.FULL);
        CHECK.due("BEYOND is asked ahead of FULL", x.feed(0, 9), Check.BEYOND);
        CHECK.due("80", x.feed(0, 1), 80);
        CHECK.due("81", x.feed(0, 1), Check.FULL);
        CHECK.due("told(4)", x.told(4), 80);
    }

    private static void textRows() {
        TownAsks x = new TownAsks();
        CHECK.due("three rows", Check.useText(x, "a001;s031;a459;"), 3);
        CHECK.due("told(3)", x.told(3), 3);
        CHECK.due("an empty one", x.text(), 0);
        CHECK.due("takes its place", x.told(3), 0);
        CHECK.due("no finding", x.told(7), 0);
        CHECK.due("s035;", Check.useText(x, "s035;"), 1);
    }

    private static void textWrong() {
        String[] texts = {
            "b", "A", ";", "a", "a0", "a01", "a012", "a012;x", "a012;a",
            "a5", "a06", "a050", "a05:", "a05/", "a059:", "a059;;", "a/", "a0/",
            "s6", "s04", "s006", "s000", "s0/", "s/", "s00/", "s01;", "s113", "s533;s535", "a:",
            "aa", "ss", "s02a", "s0213",
        };
        int[] places = {
            0, 0, 0, 1, 2, 3, 4, 5, 6,
            1, 2, 3, 3, 3, 4, 5, 1, 2,
            1, 2, 3, 3, 2, 1, 3, 3, 4, 8, 1,
            1, 1, 3, 4,
        };
        for (int i = 0; i < texts.length; i++) {
            TownAsks x = new TownAsks();
            Check.useText(x, "a021;a033;");
            CHECK.due(texts[i], Check.useText(x, texts[i]), Check.wrongAt(places[i]));
            CHECK.due("the text stays", x.told(3), 2);
            x.ask(0, 0, 0, 0, 0);
            CHECK.due("the text stays", x.whose(0), 2);
            CHECK.due("the tape is empty", x.told(4), 0);
            CHECK.due("one finding", x.told(7), 1);
        }
    }

    private static void textOfTwelveRows() {
        TownAsks x = new TownAsks();
        String eleven = "s001;".repeat(11);
        CHECK.due("12 rows", Check.useText(x, eleven + "a044;"), 12);
        x.ask(2, 0, 0, 0, 0);
        CHECK.due("the 12th row counts", x.whose(0), 4);
        CHECK.due("13 rows", Check.useText(x, eleven + "a034;a034;"), Check.wrongAt(60));
        CHECK.due("a 13th letter", Check.useText(x, eleven + "a034;s"), Check.wrongAt(60));
        CHECK.due("no letter there", Check.useText(x, eleven + "a034;x"), Check.wrongAt(60));
        CHECK.due("80 bytes", Check.useText(x, "s001;".repeat(16)), Check.wrongAt(60));
        CHECK.due("earlier", Check.useText(x, eleven + "a034?s001;"), Check.wrongAt(59));
        CHECK.due("the text stays", x.whose(0), 4);
    }

    /** Each byte at each place of a row, against the signs that may stand there. */
    private static void everyByteOfARow() {
        String[] rows = {"a234;", "s234;"};
        String[][] may = {
            {"as", "01234", "012345", "123456789", ";"}, {"as", "012345", "0123", "01345", ";"},
        };
        for (int r = 0; r < 2; r++) {
            for (int column = 0; column < 5; column++) {
                for (char sign = 0; sign < 256; sign++) {
                    String text = rows[r].substring(0, column) + sign;
                    boolean fits = may[r][column].indexOf(sign) >= 0;
                    int want = fits && column == 4 ? 1 : Check.wrongAt(fits ? column + 1 : column);
                    CHECK.due(text, Check.useText(new TownAsks(), text), want);
                }
            }
        }
    }

    private static void whoseByKind() {
        TownAsks x = new TownAsks();
        for (int kind = 0; kind < 5; kind++) {
            x.ask(kind, 0, 0, 0, 10);
        }
        owners(x, "", "NNNNN", "NNNNN");
        owners(x, "a115;", "N1NNN", "N5NNN");
        owners(x, "a225;", "NN2N2", "NN5N5");
        owners(x, "a221;a432;", "NN2N3", "NN1N2");
        owners(x, "a051;a222;a433;a114;", "51253", "14213");
        owners(x, "a433;a222;a051;a115;", "51253", "15213");
        owners(x, "a051;a042;a409;a418;", "55550", "11119");
        owners(x, "a317;", "NNN1N", "NNN7N");
    }

    /** Desks and days of the things of kinds 0 to 4, told on day 10; N where it is nobody's. */
    private static void owners(TownAsks x, String text, String desks, String days) {
        Check.useText(x, text);
        for (int t = 0; t < 5; t++) {
            boolean nobody = desks.charAt(t) == 'N';
            CHECK.due(text + " whose(" + t + ")", x.whose(t),
                    nobody ? Check.NONE : desks.charAt(t) - '0');
            CHECK.due(text + " promise(" + t + ")", x.promise(t),
                    nobody ? Check.NONE : 10 + days.charAt(t) - '0');
            CHECK.due(text + " sent(" + t + ")", x.sent(t), nobody ? Check.NONE : 0);
        }
    }

    private static void whoseSentOn() {
        TownAsks x = new TownAsks();
        x.ask(1, 3, 30, 0, 4);
        way(x, "a001;s021;", 1, 1);
        way(x, "a001;s011;", 0, 0);
        way(x, "a001;s021;s022;", 1, 1);
        way(x, "a001;s022;s021;s123;", 2, 1);
        way(x, "s021;s122;s223;s324;s425;a001;", 5, 5);
        way(x, "a001;s425;s324;s223;s122;s021;", 5, 5);
        way(x, "a001;a101;a111;s123;", 0, 0);
        way(x, "a131;s123;s324;", 4, 1);
    }

    private static void whoseInARing() {
        TownAsks x = new TownAsks();
        x.ask(1, 3, 30, 0, 4);
        way(x, "a001;s021;s120;", Check.RING, 2);
        way(x, "a001;s021;s122;s221;", Check.RING, 3);
        way(x, "a001;s021;s122;s223;s324;s425;s520;", Check.RING, 6);
        way(x, "a001;s021;s122;s223;s324;s425;s524;", Check.RING, 6);
        way(x, "a001;s122;s221;", 0, 0);
        way(x, "a001;s021;s120;s122;", Check.RING, 2);
        way(x, "a001;s021;s122;s120;", 2, 2);
        CHECK.due("promise in no ring", x.promise(0), 5);
        Check.useText(x, "a009;s021;s120;");
        CHECK.due("promise in a ring", x.promise(0), 13);
    }

    private static void way(TownAsks x, String text, int whose, int sent) {
        Check.useText(x, text);
        CHECK.due(text + " whose", x.whose(0), whose);
        CHECK.due(text + " sent", x.sent(0), sent);
    }

    private static void quartersLeadApart() {
        TownAsks x = new TownAsks();
        int[][] places = {{15, 15}, {16, 15}, {15, 16}, {16, 16}};
        x.marks(0, 0, 0);
        for (int[] place : places) {
            x.ask(0, place[0], place[1], 0, 0);
        }
        Check.useText(x, "a059;s501;s512;s523;s534;");
        for (int t = 0; t < 4; t++) {
            CHECK.due("quarter " + t, x.whose(t), t + 1);
        }
        // The thing's quarter is that of its first ask, wherever the later ones are.
        x.marks(0, 20, 0);
        x.ask(0, 16, 16, 0, 0);
        CHECK.due("joined", x.of(4, 5), 0);
        CHECK.due("by the first ask", x.whose(0), 1);
    }

    private static void noSuchThing() {
        TownAsks x = new TownAsks();
        Check.useText(x, "a001;");
        x.ask(0, 0, 0, 0, 0);
        for (int t : new int[] {-1, 1, Integer.MIN_VALUE, Integer.MAX_VALUE}) {
            CHECK.due("whose", x.whose(t), Check.BEYOND);
            CHECK.due("promise", x.promise(t), Check.BEYOND);
            CHECK.due("sent", x.sent(t), Check.BEYOND);
        }
        CHECK.due("findings", x.told(7), 12);
    }
}
