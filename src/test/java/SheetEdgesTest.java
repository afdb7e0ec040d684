/** The boundary cases of promises 20 to 26 and of number 6 of the terms, sentence by sentence. */
public final class SheetEdgesTest {
    private static final Check CHECK = new Check("SheetEdgesTest");
    private static final Edges EDGES = new Edges(CHECK);
    private static final int LATEST = Scene.LATEST_DAY;

    public static void main(String[] args) {
        walkWithinItsRanges();
        askedForNotMoreThanSeen();
        walkInPlaceOfWhatWasTold();
        quarterWithinItsRanges();
        thingsThere();
        hundredWithoutAny();
        quotientsAreCut();
        noneWhereItIsNull();
        sheetWithinItsRanges();
        sheetBits();
        sheetSizeThenBeyond();
        sheetMissing();
        sheetAllNull();
        writeWithinItsRanges();
        writeOfMissing();
        lowestBits();
        numbersThatLookLikeFindings();
        copyOfNoSuchSheet();
        copyOfMissing();
        copyOfOtherBits();
        copyOfNotSoMany();
        copyOfNone();
        copyAsTheyAllWere();
        readWithinItsRanges();
        readOfMissing();
        readOfNoPlaces();
        readOfMoreThanForty();
        readOfNone();
        toldWithinItsRange();
        toldOfAllDesks();
        toldOfFindings();
        CHECK.finish();
    }

    /** "(0 to 1000)", "BEYOND". */
    private static void walkWithinItsRanges() {
        EDGES.range("walk quarter", 0, 3, (x, v) -> x.walk(v, 8, 4));
        EDGES.range("walk seen", 0, 1000, (x, v) -> x.walk(1, v, 0));
        EDGES.range("walk asked", 0, 8, (x, v) -> x.walk(1, 8, v));
        EDGES.range("walk asked of 1000", 0, 1000, (x, v) -> x.walk(1, 1000, v));
        EDGES.range("walk asked of none", 0, 0, (x, v) -> x.walk(1, 0, v));
        EDGES.taken("walk", 1, x -> x.walk(3, 1000, 1000));
    }

    /** "of which so many (not more) were asked for". */
    private static void askedForNotMoreThanSeen() {
        EDGES.taken("as many", 1, x -> x.walk(0, 5, 5));
        EDGES.refused("one more", Check.BEYOND, x -> x.walk(0, 5, 6));
        EDGES.refused("one of none", Check.BEYOND, x -> x.walk(0, 0, 1));
        EDGES.refused("both below 0", Check.BEYOND, x -> x.walk(0, -1, -1));
        EDGES.refused("both above 1000", Check.BEYOND, x -> x.walk(0, 1001, 1001));
    }

    /** "in place of what was told". */
    private static void walkInPlaceOfWhatWasTold() {
        TownAsks x = new TownAsks();
        for (int quarter = 0; quarter < 4; quarter++) {
            x.walk(quarter, 10, 1 + quarter);
        }
        x.walk(2, 4, 3);
        int[] want = {10, 20, 75, 40};
        for (int quarter = 0; quarter < 4; quarter++) {
            CHECK.due("of 100 in " + quarter, x.quarter(quarter, 3), want[quarter]);
        }
        x.walk(2, 0, 0);
        CHECK.due("none seen now", x.quarter(2, 3), 100);
    }

    /** "BEYOND." Quarter 1 has no answer to what 4 in the scene, so the others are asked it. */
    private static void quarterWithinItsRanges() {
        for (int what = 0; what <= 4; what++) {
            int told = what;
            EDGES.range("quarter, what " + what, 0, 3, (x, v) -> x.quarter(v, told));
        }
        EDGES.range("quarter what", 0, 4, (x, v) -> x.quarter(2, v));
        EDGES.refused("BEYOND ahead of NONE", Check.BEYOND, x -> x.quarter(1, 5));
        EDGES.refused("quarter of neither", Check.BEYOND, x -> x.quarter(4, 5));
    }

    /** "0 THINGS there, 1 ASKS there (by their own PLACES), 2 THINGS CLOSED", with none and with all of them. */
    private static void thingsThere() {
        TownAsks x = new TownAsks();
        Check.useText(x, "a001;");
        counts("none", x, 0, 0, 0);
        x.ask(0, 15, 15, 0, 0);
        x.ask(0, 16, 15, 0, 0);
        counts("one thing, one of its asks elsewhere", x, 1, 1, 0);
        CHECK.due("no thing elsewhere", x.quarter(1, 0), 0);
        CHECK.due("an ask elsewhere", x.quarter(1, 1), 1);
        x.close(0, 0);
        counts("all closed", x, 1, 1, 1);
        CHECK.due("none elsewhere", x.quarter(1, 2), 0);
        x.look(0, false);
        counts("open again", x, 1, 1, 0);
        x.close(0, 0);
        x.look(0, true);
        counts("closed and looked at", x, 1, 1, 1);
    }

    private static void counts(String when, TownAsks x, int... want) {
        for (int what = 0; what < want.length; what++) {
            CHECK.due(when + ": quarter(0, " + what + ")", x.quarter(0, what), want[what]);
        }
    }

    /** "(100 without any)". */
    private static void hundredWithoutAny() {
        TownAsks x = new TownAsks();
        x.ask(0, 0, 0, 0, 0);
        CHECK.due("never walked", x.quarter(0, 3), 100);
        CHECK.due("things by that", x.quarter(0, 4), 1);
        CHECK.due("no things by that", x.quarter(3, 4), 0);
        x.walk(0, 1, 0);
        CHECK.due("one seen, none asked for", x.quarter(0, 3), 0);
        x.walk(0, 0, 0);
        CHECK.due("none seen", x.quarter(0, 3), 100);
        CHECK.due("things by that", x.quarter(0, 4), 1);
        x.walk(0, 1, 1);
        CHECK.due("one of one", x.quarter(0, 3), 100);
    }

    /** "Quotients are cut." */
    private static void quotientsAreCut() {
        TownAsks x = new TownAsks();
        x.marks(0, 0, 0);
        for (int i = 0; i < 40; i++) {
            x.ask(0, i % 8, i / 8, 0, 0);
        }
        int[][] rows = {
            {1000, 1000, 100, 40}, {1000, 999, 99, 40}, {1000, 11, 1, 4000}, {1000, 19, 1, 4000},
            {1000, 20, 2, 2000}, {3, 1, 33, 121}, {3, 2, 66, 60}, {7, 6, 85, 47}, {101, 100, 99, 40},
        };
        for (int[] r : rows) {
            x.walk(0, r[0], r[1]);
            CHECK.due(r[1] + " of " + r[0], x.quarter(0, 3), r[2]);
            CHECK.due("40 things by " + r[2], x.quarter(0, 4), r[3]);
        }
    }

    /** "(NONE: it is 0)". */
    private static void noneWhereItIsNull() {
        EDGES.taken("10 of 1000", 100, x -> x.walk(3, 1000, 10), x -> x.quarter(3, 4) / x.quarter(3, 0));
        EDGES.refused("9 of 1000", Check.NONE, x -> x.walk(3, 1000, 9), x -> x.quarter(3, 4));
        EDGES.taken("1 of 100", 1, x -> x.walk(3, 100, 1), x -> x.quarter(3, 3));
        EDGES.refused("1 of 101", Check.NONE, x -> x.walk(3, 101, 1), x -> x.quarter(3, 4));
        EDGES.refused("0 of 1", Check.NONE, x -> x.walk(3, 1, 0), x -> x.quarter(3, 4));
        EDGES.taken("0 of 0", 1, x -> x.walk(3, 0, 0), x -> x.quarter(3, 4) / x.quarter(3, 0));
        TownAsks x = new TownAsks();
        x.walk(2, 5, 0);
        CHECK.due("where there are no things, too", x.quarter(2, 4), Check.NONE);
        CHECK.due("the 0 itself is no finding", x.quarter(2, 3), 0);
        CHECK.due("one finding", x.told(7), 1);
    }

    /** "BEYOND: no such sheet, or bits." "BEYOND: n is above 12." */
    private static void sheetWithinItsRanges() {
        EDGES.range("sheet", 0, 3, (x, v) -> x.sheet(v, 8, 3));
        for (int bits : new int[] {8, 16, 32}) {
            EDGES.taken("n 0", 0, x -> x.sheet(0, bits, 0));
            EDGES.taken("n 12", 12, x -> x.sheet(0, bits, 12));
            EDGES.above("sheet n of " + bits + " bits", 12, (x, v) -> x.sheet(0, bits, v));
        }
    }

    /** "of 8, 16 or 32 bits; bits 0: it is MISSING". */
    private static void sheetBits() {
        int[] others = {
            -1, 1, 7, 9, 15, 17, 24, 31, 33, 64, -8, -32, 256 + 8, Integer.MIN_VALUE, Integer.MAX_VALUE,
        };
        for (int bits : others) {
            EDGES.refused("sheet of " + bits + " bits", Check.BEYOND, x -> x.sheet(0, bits, 3));
        }
        for (int bits : new int[] {8, 16, 32}) {
            EDGES.taken("sheet of " + bits + " bits", 3, x -> x.sheet(0, bits, 3));
        }
        EDGES.taken("sheet of 0 bits", 0, x -> x.sheet(0, 0, 3));
    }

    /** "BEYOND: no such sheet, or bits. SIZE: n is below 0. BEYOND: n is above 12.", in this order. */
    private static void sheetSizeThenBeyond() {
        for (int bits : new int[] {0, 8, 16, 32}) {
            EDGES.refused("n -1", Check.SIZE, x -> x.sheet(0, bits, -1));
            EDGES.refused("n least", Check.SIZE, x -> x.sheet(0, bits, Integer.MIN_VALUE));
            EDGES.refused("n 13", Check.BEYOND, x -> x.sheet(0, bits, 13));
            EDGES.refused("sheet -1 ahead of SIZE", Check.BEYOND, x -> x.sheet(-1, bits, -1));
            EDGES.refused("sheet 4 ahead of SIZE", Check.BEYOND, x -> x.sheet(4, bits, -1));
        }
        EDGES.refused("bits 9 ahead of SIZE", Check.BEYOND, x -> x.sheet(0, 9, -1));
        EDGES.refused("of a missing one: SIZE", Check.SIZE, x -> x.sheet(Scene.MISSING, 8, -1));
    }

    /** "bits 0: it is MISSING: n (0)". */
    private static void sheetMissing() {
        for (int n : new int[] {0, 1, 12}) {
            EDGES.taken("missing, n " + n, 0, x -> x.sheet(0, 0, n));
            EDGES.refused("then a write", Check.MISSING, x -> x.sheet(0, 0, n), x -> x.write(0, 0, 1));
        }
        EDGES.taken("missing still", 0, x -> x.sheet(Scene.MISSING, 0, 0));
        EDGES.taken("there again", 2, x -> x.sheet(0, 0, 0), x -> x.sheet(0, 8, 2));
        EDGES.refused("of no numbers it is not missing", Check.BEYOND, x -> x.sheet(0, 8, 0), x -> x.write(0, 0, 1));
    }

    /** "A sheet has n numbers, all 0". */
    private static void sheetAllNull() {
        TownAsks x = new TownAsks();
        for (int bits : new int[] {8, 16, 32, 8}) {
            CHECK.due("12 numbers", x.sheet(2, bits, 12), 12);
            for (int i = 0; i < 12; i++) {
                CHECK.due("number " + i + " of " + bits + " bits", x.write(2, i, -7), 0);
            }
            x.sheet(2, bits, 1);
            CHECK.due("a shorter one", x.write(2, 0, 5), 0);
            CHECK.due("has no more", x.write(2, 1, 5), Check.BEYOND);
        }
        x.write(2, 0, 9);
        x.sheet(2, 0, 0);
        x.sheet(2, 8, 1);
        CHECK.due("after it was missing", x.write(2, 0, 5), 0);
    }

    /** "BEYOND: no such sheet." "BEYOND: no such number." */
    private static void writeWithinItsRanges() {
        for (int s : new int[] {-1, 4, Integer.MIN_VALUE, Integer.MAX_VALUE}) {
            EDGES.refused("write sheet " + s, Check.BEYOND, x -> x.write(s, 0, 1));
        }
        EDGES.range("write i of 3", 0, 2, (x, v) -> x.write(Scene.OF_8_BITS, v, 1));
        EDGES.range("write i of 4", 0, 3, (x, v) -> x.write(Scene.NO_PLACES, v, 1));
        EDGES.range("write i of 12", 0, 11, (x, v) -> x.write(Scene.PLACES, v, 1));
        EDGES.refused("write of neither", Check.BEYOND, x -> x.write(4, -1, 1));
        EDGES.refused("of no numbers", Check.BEYOND, x -> x.sheet(0, 16, 0), x -> x.write(0, 0, 1));
        EDGES.taken("what it was", 77, x -> x.write(Scene.OF_8_BITS, 1, 1));
    }

    /** "MISSING.", behind the sheet and ahead of the number. */
    private static void writeOfMissing() {
        EDGES.refused("missing", Check.MISSING, x -> x.write(Scene.MISSING, 0, 1));
        EDGES.refused("missing, number -1", Check.MISSING, x -> x.write(Scene.MISSING, -1, 1));
        EDGES.refused("missing, number 12", Check.MISSING, x -> x.write(Scene.MISSING, 12, 1));
        EDGES.taken("the last sheet, once it is there", 0, x -> x.sheet(Scene.MISSING, 32, 1),
                x -> x.write(Scene.MISSING, 0, 1));
    }

    /** "Number i of a sheet becomes v (its lowest bits)". */
    private static void lowestBits() {
        int[][] rows = {
            {8, 127, 127}, {8, 128, -128}, {8, 255, -1}, {8, 256, 0}, {8, -128, -128}, {8, -129, 127},
            {8, 257, 1}, {8, Integer.MAX_VALUE, -1}, {8, Integer.MIN_VALUE, 0}, {8, 0x12345680, -128},
            {16, 32767, 32767}, {16, 32768, -32768}, {16, 65535, -1}, {16, 65536, 0}, {16, -32768, -32768},
            {16, -32769, 32767}, {16, 128, 128}, {16, Integer.MAX_VALUE, -1}, {16, Integer.MIN_VALUE, 0},
            {32, Integer.MAX_VALUE, Integer.MAX_VALUE}, {32, Integer.MIN_VALUE, Integer.MIN_VALUE},
            {32, 65536, 65536}, {32, -1, -1},
        };
        for (int[] r : rows) {
            TownAsks x = new TownAsks();
            x.sheet(3, r[0], 12);
            CHECK.due("it was 0", x.write(3, 11, r[1]), 0);
            CHECK.due(r[1] + " in " + r[0] + " bits", x.write(3, 11, 0), r[2]);
            CHECK.due("the one ahead", x.write(3, 10, 0), 0);
        }
    }

    /** A number that a write answers is no finding, though it may be below -1000000. */
    private static void numbersThatLookLikeFindings() {
        for (int v : new int[] {-1000000, -1000001, -1000009, -1000100, Integer.MIN_VALUE}) {
            TownAsks x = new TownAsks();
            x.sheet(0, 32, 1);
            x.write(0, 0, v);
            CHECK.due("what it was", x.write(0, 0, 1), v);
            CHECK.due("no finding", x.told(7), 0);
            CHECK.due("it was written", x.write(0, 0, 0), 1);
        }
    }

    /** "BEYOND: no such sheet (either)." */
    private static void copyOfNoSuchSheet() {
        for (int s : new int[] {-1, 4, Integer.MIN_VALUE, Integer.MAX_VALUE}) {
            EDGES.refused("copy from sheet " + s, Check.BEYOND, x -> x.copy(s, 0, 1, 0, 1));
            EDGES.refused("copy to sheet " + s, Check.BEYOND, x -> x.copy(1, 0, s, 0, 1));
            EDGES.refused("copy from and to sheet " + s, Check.BEYOND, x -> x.copy(s, 0, s, 0, 0));
            EDGES.refused("BEYOND ahead of MISSING", Check.BEYOND, x -> x.copy(Scene.MISSING, 0, s, 0, 1));
            EDGES.refused("BEYOND ahead of MISSING", Check.BEYOND, x -> x.copy(s, 0, Scene.MISSING, 0, 1));
        }
        EDGES.taken("from the first to itself", 3, x -> x.copy(0, 0, 0, 0, 3));
        EDGES.taken("from the last to itself", 3, x -> x.sheet(3, 8, 3), x -> x.copy(3, 0, 3, 0, 3));
        EDGES.taken("from the first to the last", 3, x -> x.sheet(3, 8, 3), x -> x.copy(0, 0, 3, 0, 3));
    }

    /** "MISSING: one is." */
    private static void copyOfMissing() {
        EDGES.refused("from a missing one", Check.MISSING, x -> x.copy(Scene.MISSING, 0, 0, 0, 1));
        EDGES.refused("to a missing one", Check.MISSING, x -> x.copy(0, 0, Scene.MISSING, 0, 1));
        EDGES.refused("a missing one to itself", Check.MISSING, x -> x.copy(3, 0, 3, 0, 0));
        EDGES.refused("both", Check.MISSING, x -> x.sheet(2, 0, 0), x -> x.copy(3, 0, 2, 0, 0));
        EDGES.refused("MISSING ahead of KIND and BEYOND", Check.MISSING, x -> x.copy(0, -1, Scene.MISSING, 9, -1));
    }

    /** "KIND: they are not of as many bits." */
    private static void copyOfOtherBits() {
        int[] bits = {8, 16, 32};
        for (int from : bits) {
            for (int to : bits) {
                Scene.Act ahead = x -> x.sheet(0, from, 2) + x.sheet(3, to, 2);
                String call = "from " + from + " to " + to + " bits";
                if (from == to) {
                    EDGES.taken(call, 2, ahead, x -> x.copy(0, 0, 3, 0, 2));
                } else {
                    EDGES.refused(call, Check.KIND, ahead, x -> x.copy(0, 0, 3, 0, 2));
                    EDGES.refused(call + ", none", Check.KIND, ahead, x -> x.copy(0, 0, 3, 0, 0));
                    EDGES.refused(call + ", KIND ahead of BEYOND", Check.KIND, ahead, x -> x.copy(0, 3, 3, -1, 3));
                }
            }
        }
    }

    /** "BEYOND: one has not so many, or from, to or n is below 0." The sheets 1 and 2 have 4 and 12. */
    private static void copyOfNotSoMany() {
        EDGES.range("copy n, all of 4", 0, 4, (x, v) -> x.copy(1, 0, 2, 0, v));
        EDGES.range("copy n, into 4", 0, 4, (x, v) -> x.copy(2, 0, 1, 0, v));
        EDGES.range("copy n, from the last on", 0, 1, (x, v) -> x.copy(1, 3, 2, 0, v));
        EDGES.range("copy n, to the last on", 0, 1, (x, v) -> x.copy(2, 0, 1, 3, v));
        EDGES.range("copy n of 12", 0, 12, (x, v) -> x.copy(2, 0, 2, 0, v));
        EDGES.range("copy from, 2", 0, 2, (x, v) -> x.copy(1, v, 2, 0, 2));
        EDGES.range("copy from, 1", 0, 11, (x, v) -> x.copy(2, v, 1, 0, 1));
        EDGES.range("copy to, 2", 0, 2, (x, v) -> x.copy(2, 0, 1, v, 2));
        EDGES.range("copy to, 1", 0, 11, (x, v) -> x.copy(1, 0, 2, v, 1));
        int most = Integer.MAX_VALUE;
        EDGES.refused("from and n most", Check.BEYOND, x -> x.copy(1, most, 2, 0, most));
        EDGES.refused("to and n most", Check.BEYOND, x -> x.copy(1, 0, 2, most, most));
        EDGES.refused("from 1, n most", Check.BEYOND, x -> x.copy(1, 1, 2, 0, most));
        EDGES.refused("to 1, n most", Check.BEYOND, x -> x.copy(1, 0, 2, 1, most));
        EDGES.refused("from most, n 1", Check.BEYOND, x -> x.copy(1, most, 2, 0, 1));
        EDGES.refused("from -1 with n 0", Check.BEYOND, x -> x.copy(1, -1, 2, 0, 0));
        EDGES.refused("to -1 with n 0", Check.BEYOND, x -> x.copy(1, 0, 2, -1, 0));
        EDGES.refused("n -1 from the end", Check.BEYOND, x -> x.copy(1, 4, 2, 12, -1));
    }

    private static void copyOfNone() {
        EDGES.taken("none", 0, x -> x.copy(1, 0, 2, 0, 0));
        EDGES.taken("none at both ends", 0, x -> x.copy(1, 4, 2, 12, 0));
        EDGES.refused("none behind the end of one", Check.BEYOND, x -> x.copy(1, 5, 2, 0, 0));
        EDGES.refused("none behind the end of the other", Check.BEYOND, x -> x.copy(1, 0, 2, 13, 0));
        EDGES.taken("none of none", 0, x -> x.sheet(0, 16, 0), x -> x.copy(0, 0, 2, 0, 0));
        EDGES.refused("one of none", Check.BEYOND, x -> x.sheet(0, 16, 0), x -> x.copy(0, 0, 2, 0, 1));
        CHECK.dueText("none changes none", Scene.allAfter(x -> x.copy(1, 4, 2, 12, 0)), Scene.allAfter());
    }

    /** "(as they all were)". */
    private static void copyAsTheyAllWere() {
        for (int step = 0; step <= 3; step++) {
            TownAsks on = numbered();
            TownAsks back = numbered();
            CHECK.due("on by " + step, on.copy(0, 0, 0, step, 12 - step), 12 - step);
            CHECK.due("back by " + step, back.copy(0, step, 0, 0, 12 - step), 12 - step);
            for (int i = 0; i < 12; i++) {
                CHECK.due("on by " + step + ", number " + i, on.write(0, i, 0), i < step ? i + 1 : i - step + 1);
                CHECK.due("back by " + step + ", number " + i, back.write(0, i, 0),
                        i < 12 - step ? i + step + 1 : i + 1);
            }
        }
    }

    private static TownAsks numbered() {
        TownAsks x = new TownAsks();
        x.sheet(0, 8, 12);
        for (int i = 0; i < 12; i++) {
            x.write(0, i, i + 1);
        }
        return x;
    }

    /** "BEYOND: no such sheet, KIND, or day (as of ask())." */
    private static void readWithinItsRanges() {
        for (int s : new int[] {-1, 4, Integer.MIN_VALUE, Integer.MAX_VALUE}) {
            EDGES.refused("read sheet " + s, Check.BEYOND, x -> x.read(s, 1, LATEST));
        }
        EDGES.taken("read the first sheet", Scene.ASKS + 3, x -> x.read(0, 1, LATEST));
        EDGES.taken("read the last sheet", Scene.ASKS + 1, x -> x.sheet(3, 32, 1), x -> x.read(3, 1, LATEST));
        EDGES.range("read kind", 0, 4, (x, v) -> x.read(Scene.PLACES, v, LATEST));
        EDGES.range("read day", LATEST, 999, (x, v) -> x.read(Scene.PLACES, 1, v));
        TownAsks x = new TownAsks();
        x.sheet(0, 8, 1);
        CHECK.due("day -1 without any ask", x.read(0, 0, -1), Check.BEYOND);
        CHECK.due("day 0 without any ask", x.read(0, 0, 0), 1);
        CHECK.due("day 999", x.read(0, 0, 999), 2);
        CHECK.due("day 998 then", x.read(0, 0, 998), Check.BEYOND);
        CHECK.due("without doubt", x.of(1, 3), 0);
        CHECK.due("on that day", x.of(1, 4), 999);
    }

    /** "MISSING.", behind BEYOND. */
    private static void readOfMissing() {
        EDGES.refused("missing", Check.MISSING, x -> x.read(Scene.MISSING, 1, LATEST));
        EDGES.refused("BEYOND ahead of MISSING, kind -1", Check.BEYOND, x -> x.read(Scene.MISSING, -1, LATEST));
        EDGES.refused("BEYOND ahead of MISSING, kind 5", Check.BEYOND, x -> x.read(Scene.MISSING, 5, LATEST));
        EDGES.refused("BEYOND ahead of MISSING, day", Check.BEYOND, x -> x.read(Scene.MISSING, 1, LATEST - 1));
        EDGES.refused("BEYOND ahead of MISSING, day 1000", Check.BEYOND, x -> x.read(Scene.MISSING, 1, 1000));
        EDGES.refused("MISSING ahead of FULL", Check.MISSING, Scene::fillAsks, x -> x.read(Scene.MISSING, 1, LATEST));
    }

    /** "BEYOND: a number is not 0 to 1023." */
    private static void readOfNoPlaces() {
        for (int bits : new int[] {16, 32}) {
            Scene.Act ahead = x -> x.sheet(0, bits, 3);
            for (int i = 0; i < 3; i++) {
                int at = i;
                EDGES.range("number " + i + " of " + bits + " bits", 0, 1023, (x, v) -> {
                    ahead.on(x);
                    x.write(0, at, v == Integer.MAX_VALUE ? 32767 : v == Integer.MIN_VALUE ? -32768 : v);
                    int answer = x.read(0, 1, LATEST);
                    x.sheet(0, 8, 3);
                    x.write(0, 1, 77);
                    return answer;
                });
            }
        }
        EDGES.taken("127 of 8 bits", Scene.ASKS + 3, x -> x.write(0, 2, 127), x -> x.read(0, 1, LATEST));
        EDGES.refused("128 of 8 bits is below 0", Check.BEYOND, x -> x.write(0, 2, 128), x -> x.read(0, 1, LATEST));
        EDGES.taken("65536 of 16 bits is 0", Scene.ASKS + 4, x -> x.write(1, 2, 65536), x -> x.read(1, 1, LATEST));
        EDGES.refused("65536 of 32 bits", Check.BEYOND, x -> x.sheet(0, 32, 1) + x.write(0, 0, 65536),
                x -> x.read(0, 1, LATEST));
        EDGES.refused("in the midst", Check.BEYOND, x -> x.read(Scene.NO_PLACES, 1, LATEST + 1));
        EDGES.refused("the number ahead of FULL", Check.BEYOND, Scene::fillAsks,
                x -> x.read(Scene.NO_PLACES, 1, LATEST));
        places();
    }

    /** "32 times x, and y". */
    private static void places() {
        int[][] rows = {{0, 0, 0}, {31, 0, 31}, {32, 1, 0}, {992, 31, 0}, {1023, 31, 31}, {1022, 31, 30}};
        TownAsks x = new TownAsks();
        x.sheet(0, 16, rows.length);
        for (int i = 0; i < rows.length; i++) {
            x.write(0, i, rows[i][0]);
        }
        CHECK.due("read", x.read(0, 2, 5), rows.length);
        for (int i = 0; i < rows.length; i++) {
            CHECK.due("x of " + rows[i][0], x.of(i, 1), rows[i][1]);
            CHECK.due("y of " + rows[i][0], x.of(i, 2), rows[i][2]);
        }
    }

    /** "FULL: there would be more than 40." */
    private static void readOfMoreThanForty() {
        for (int n : new int[] {1, 2, 12}) {
            Scene.Act just = x -> askTo(x, 40 - n) + x.sheet(0, 8, n);
            Scene.Act over = x -> askTo(x, 41 - n) + x.sheet(0, 8, n);
            EDGES.taken(n + " to 40", 40, just, x -> x.read(0, 1, LATEST));
            EDGES.refused(n + " to 41", Check.FULL, over, x -> x.read(0, 1, LATEST));
            EDGES.refused(n + " to 41, BEYOND ahead of FULL", Check.BEYOND, over, x -> x.read(0, 5, LATEST));
            EDGES.refused(n + " to 41, day ahead of FULL", Check.BEYOND, over, x -> x.read(0, 1, LATEST - 1));
        }
        EDGES.refused("12 on 40", Check.FULL, Scene::fillAsks, x -> x.read(Scene.PLACES, 1, 999));
    }

    private static int askTo(TownAsks x, int asks) {
        int answer = 0;
        while (x.told(0) < asks) {
            answer = x.ask(3, 0, 0, 0, LATEST);
        }
        return answer;
    }

    private static void readOfNone() {
        EDGES.taken("of none", Scene.ASKS, x -> x.sheet(0, 8, 0), x -> x.read(0, 1, 999));
        EDGES.taken("of none where it is full", 40, x -> Scene.fillAsks(x) + x.sheet(0, 8, 0),
                x -> x.read(0, 1, LATEST));
        EDGES.refused("of none, kind 5", Check.BEYOND, x -> x.sheet(0, 8, 0), x -> x.read(0, 5, LATEST));
        TownAsks x = new TownAsks();
        x.sheet(0, 8, 0);
        CHECK.due("of none without any", x.read(0, 0, 999), 0);
        CHECK.due("no day was told", x.told(6), 0);
        CHECK.due("so day 0 is taken", x.ask(0, 0, 0, 0, 0), 0);
    }

    /** "BEYOND: another what." */
    private static void toldWithinItsRange() {
        EDGES.range("told", 0, 7, (x, v) -> x.told(v));
        TownAsks x = new TownAsks();
        x.ask(0, 0, 0, 0, 0);
        CHECK.due("the latest day may be 0", x.told(6), 0);
        x.ask(0, 0, 0, 0, 999);
        CHECK.due("or 999", x.told(6), 999);
    }

    /** "CLOSINGS of all DESKS": the first one's and the last one's, too. */
    private static void toldOfAllDesks() {
        TownAsks x = new TownAsks();
        Check.useText(x, "a101;a251;a329;");
        for (int kind = 1; kind <= 3; kind++) {
            x.ask(kind, 0, 0, 0, 0);
            CHECK.due("none of " + kind, x.told(5), kind - 1);
            x.close(kind - 1, 0);
            CHECK.due("one of " + kind, x.told(5), kind);
        }
        x.look(0, false);
        CHECK.due("a false one was a closing", x.told(5), 3);
        x.close(0, 0);
        CHECK.due("anew", x.told(5), 4);
    }

    /** "how many acts answered a finding ever (this one, too, if it does)". */
    private static void toldOfFindings() {
        TownAsks x = new TownAsks();
        CHECK.due("none", x.told(7), 0);
        CHECK.due("told 8", x.told(8), Check.BEYOND);
        CHECK.due("this one, too", x.told(7), 1);
        CHECK.due("told 7 is none", x.told(7), 1);
        CHECK.due("told -1", x.told(-1), Check.BEYOND);
        x.feed('x', 1);
        CHECK.due("a wrong text", x.text(), Check.wrongAt(0));
        CHECK.due("is one of them", x.told(7), 3);
        x.ask(1, 0, 0, 0, 0);
        CHECK.due("behind the last ask", x.asked(0, 1), -1);
        CHECK.due("behind the last of an order", x.order(0, 1, 0, 0, 3), -1);
        CHECK.due("never closed", x.thing(0, 7), -1);
        CHECK.due("a -1 is none of them", x.told(7), 3);
        for (int i = 0; i < 490; i++) {
            x.whose(0);
        }
        CHECK.due("all of them", x.told(7), 493);
    }
}
