/** Promises 22 to 26: sheet, write, copy, read, told. */
public final class SheetsTest {
    private static final Check CHECK = new Check("SheetsTest");

    public static void main(String[] args) {
        sheetEdges();
        sheetIsNew();
        writeBits();
        writeEdges();
        numbersThatLookLikeFindings();
        copyAsTheyWere();
        copyEdges();
        readAsks();
        readEdges();
        toldAll();
        CHECK.finish();
    }

    private static void sheetEdges() {
        TownAsks x = new TownAsks();
        CHECK.due("sheet -1", x.sheet(-1, 8, 1), Check.BEYOND);
        CHECK.due("sheet 4", x.sheet(4, 8, 1), Check.BEYOND);
        for (int bits : new int[] {-8, 1, 7, 9, 24, 31, 33, 64}) {
            CHECK.due("bits " + bits, x.sheet(0, bits, 1), Check.BEYOND);
        }
        CHECK.due("BEYOND ahead of SIZE", x.sheet(0, 7, -1), Check.BEYOND);
        CHECK.due("BEYOND ahead of SIZE", x.sheet(4, 8, -1), Check.BEYOND);
        CHECK.due("n -1", x.sheet(0, 8, -1), Check.SIZE);
        CHECK.due("n least", x.sheet(0, 8, Integer.MIN_VALUE), Check.SIZE);
        CHECK.due("n 13", x.sheet(0, 8, 13), Check.BEYOND);
        CHECK.due("n -1 of a missing one", x.sheet(0, 0, -1), Check.SIZE);
        CHECK.due("n 13 of a missing one", x.sheet(0, 0, 13), Check.BEYOND);
        CHECK.due("still missing", x.write(0, 0, 0), Check.MISSING);
        CHECK.due("n 12", x.sheet(3, 32, 12), 12);
        CHECK.due("n 0", x.sheet(2, 16, 0), 0);
        CHECK.due("none, but not missing", x.write(2, 0, 0), Check.BEYOND);
        CHECK.due("bits 0", x.sheet(3, 0, 12), 0);
        CHECK.due("missing", x.write(3, 0, 0), Check.MISSING);
    }

    private static void sheetIsNew() {
        TownAsks x = new TownAsks();
        x.sheet(1, 8, 12);
        for (int i = 0; i < 12; i++) {
            CHECK.due("0 at first", x.write(1, i, i + 1), 0);
        }
        x.sheet(1, 16, 4);
        x.sheet(1, 8, 12);
        for (int i = 0; i < 12; i++) {
            CHECK.due("0 anew", x.write(1, i, i + 1), 0);
        }
        CHECK.due("a finding leaves it", x.sheet(1, 8, 13), Check.BEYOND);
        CHECK.due("what it was", x.write(1, 11, 0), 12);
    }

    private static void writeBits() {
        int[] bits = {8, 16, 32};
        int[] values = {0, 1, 127, 128, 255, 256, -1, -128, -129, 32767, 32768, 65535, 65536,
            -32768, -32769, Integer.MAX_VALUE, Integer.MIN_VALUE, 0x12345678, 0x1234ABCD};
        TownAsks x = new TownAsks();
        for (int b : bits) {
            x.sheet(0, b, 2);
            for (int v : values) {
                x.write(0, 1, v);
                int kept = v << 32 - b >> 32 - b;
                CHECK.due(v + " in " + b + " bits", x.write(0, 1, 0), kept);
            }
            CHECK.due("the other one stays", x.write(0, 0, 0), 0);
        }
    }

    private static void writeEdges() {
        TownAsks x = new TownAsks();
        x.sheet(0, 8, 3);
        CHECK.due("sheet -1", x.write(-1, 0, 0), Check.BEYOND);
        CHECK.due("sheet 4", x.write(4, 0, 0), Check.BEYOND);
        CHECK.due("number -1", x.write(0, -1, 0), Check.BEYOND);
        CHECK.due("number 3", x.write(0, 3, 0), Check.BEYOND);
        CHECK.due("number 12", x.write(0, 12, 0), Check.BEYOND);
        CHECK.due("MISSING ahead of the number", x.write(1, -1, 0), Check.MISSING);
        CHECK.due("number 2", x.write(0, 2, 9), 0);
        CHECK.due("number 2", x.write(0, 2, 8), 9);
    }

    private static void numbersThatLookLikeFindings() {
        TownAsks x = new TownAsks();
        x.sheet(0, 32, 1);
        x.write(0, 0, Check.BEYOND);
        CHECK.due("what it was", x.write(0, 0, 5), Check.BEYOND);
        CHECK.due("is no finding", x.told(7), 0);
        CHECK.due("it was written", x.write(0, 0, 0), 5);
    }

    private static void fill(TownAsks x, int s, int bits, int... numbers) {
        x.sheet(s, bits, numbers.length);
        for (int i = 0; i < numbers.length; i++) {
            x.write(s, i, numbers[i]);
        }
    }

    private static void holds(String when, TownAsks x, int s, int... want) {
        for (int i = 0; i < want.length; i++) {
            CHECK.due(when + ": number " + i, x.write(s, i, want[i]), want[i]);
        }
    }

    private static void copyAsTheyWere() {
        TownAsks x = new TownAsks();
        fill(x, 0, 16, 1, 2, 3, 4, 5);
        fill(x, 1, 16, 6, 7, 8);
        CHECK.due("copy", x.copy(0, 3, 1, 0, 2), 2);
        holds("target", x, 1, 4, 5, 8);
        holds("source", x, 0, 1, 2, 3, 4, 5);
        CHECK.due("to the end", x.copy(1, 0, 0, 2, 3), 3);
        holds("target", x, 0, 1, 2, 4, 5, 8);
        CHECK.due("onto itself, on", x.copy(0, 0, 0, 1, 4), 4);
        holds("on", x, 0, 1, 1, 2, 4, 5);
        CHECK.due("onto itself, back", x.copy(0, 1, 0, 0, 4), 4);
        holds("back", x, 0, 1, 2, 4, 5, 5);
        CHECK.due("none at the end", x.copy(0, 5, 1, 3, 0), 0);
        holds("as before", x, 1, 4, 5, 8);
    }

    private static void copyEdges() {
        TownAsks x = new TownAsks();
        fill(x, 0, 8, 1, 2, 3);
        fill(x, 1, 8, 4, 5);
        fill(x, 2, 32, 6, 7);
        CHECK.due("sheet -1", x.copy(-1, 0, 1, 0, 1), Check.BEYOND);
        CHECK.due("sheet 4", x.copy(4, 0, 1, 0, 1), Check.BEYOND);
        CHECK.due("to -1", x.copy(0, 0, -1, 0, 1), Check.BEYOND);
        CHECK.due("to 4", x.copy(0, 0, 4, 0, 1), Check.BEYOND);
        CHECK.due("BEYOND ahead of MISSING", x.copy(3, 0, 4, 0, 1), Check.BEYOND);
        CHECK.due("source missing", x.copy(3, 0, 1, 0, 1), Check.MISSING);
        CHECK.due("target missing", x.copy(0, 0, 3, 0, 1), Check.MISSING);
        CHECK.due("MISSING ahead of BEYOND", x.copy(3, -1, 3, 0, 1), Check.MISSING);
        CHECK.due("KIND", x.copy(0, 0, 2, 0, 1), Check.KIND);
        CHECK.due("KIND of none", x.copy(2, 0, 1, 0, 0), Check.KIND);
        CHECK.due("KIND ahead of BEYOND", x.copy(0, -1, 2, 0, 1), Check.KIND);
        int[][] wrong = {
            {-1, 0, 1}, {0, -1, 1}, {0, 0, -1}, {0, 0, 3}, {2, 0, 2}, {0, 1, 2}, {4, 0, 0},
            {0, 3, 0}, {Integer.MAX_VALUE, 0, 1}, {0, Integer.MAX_VALUE, 1},
            {1, 0, Integer.MAX_VALUE}, {Integer.MAX_VALUE, 0, Integer.MAX_VALUE},
            {0, 0, Integer.MIN_VALUE}, {Integer.MIN_VALUE, 0, 1},
        };
        for (int[] w : wrong) {
            CHECK.due("copy beyond", x.copy(0, w[0], 1, w[1], w[2]), Check.BEYOND);
        }
        holds("source", x, 0, 1, 2, 3);
        holds("target", x, 1, 4, 5);
        holds("other", x, 2, 6, 7);
    }

    private static void readAsks() {
        TownAsks x = new TownAsks();
        fill(x, 0, 16, 33, 1023, 34, 0);
        CHECK.due("read", x.read(0, 3, 7), 4);
        int[][] want = {{3, 1, 1, 0, 7, 0, 0}, {3, 31, 31, 0, 7, 1, 3}, {3, 1, 2, 0, 7, 0, 0}, {3, 0, 0, 0, 7, 2, 0}};
        for (int ask = 0; ask < 4; ask++) {
            for (int what = 0; what < 7; what++) {
                CHECK.due("of(" + ask + ", " + what + ")", x.of(ask, what), want[ask][what]);
            }
        }
        CHECK.due("read anew", x.read(0, 3, 7), 8);
        CHECK.due("the sheet stays", x.write(0, 1, 0), 1023);
        x.sheet(1, 8, 0);
        CHECK.due("an empty sheet", x.read(1, 0, 999), 8);
        CHECK.due("tells no day", x.told(6), 7);
    }

    private static void readEdges() {
        TownAsks x = new TownAsks();
        fill(x, 0, 16, 5, 1024);
        fill(x, 1, 8, 0, -1);
        fill(x, 2, 32, new int[12]);
        x.ask(0, 0, 0, 0, 50);
        CHECK.due("sheet -1", x.read(-1, 0, 50), Check.BEYOND);
        CHECK.due("sheet 4", x.read(4, 0, 50), Check.BEYOND);
        CHECK.due("kind -1", x.read(2, -1, 50), Check.BEYOND);
        CHECK.due("kind 5", x.read(2, 5, 50), Check.BEYOND);
        CHECK.due("day 49", x.read(2, 0, 49), Check.BEYOND);
        CHECK.due("day 1000", x.read(2, 0, 1000), Check.BEYOND);
        CHECK.due("BEYOND ahead of MISSING", x.read(3, 0, 49), Check.BEYOND);
        CHECK.due("missing", x.read(3, 0, 50), Check.MISSING);
        CHECK.due("1024", x.read(0, 0, 50), Check.BEYOND);
        CHECK.due("-1", x.read(1, 0, 50), Check.BEYOND);
        fill(x, 1, 8, -1, 0);
        CHECK.due("-1 first", x.read(1, 0, 50), Check.BEYOND);
        CHECK.due("none came", x.told(0), 1);
        for (int i = 1; i <= 3; i++) {
            CHECK.due("12 more", x.read(2, 0, 50), 1 + 12 * i);
        }
        CHECK.due("49", x.read(2, 0, 60), Check.FULL);
        CHECK.due("the number ahead of FULL", x.read(0, 0, 60), Check.BEYOND);
        CHECK.due("none came", x.told(0), 37);
        CHECK.due("nor a day", x.told(6), 50);
        x.sheet(2, 8, 4);
        CHECK.due("41", x.read(2, 0, 50), Check.FULL);
        x.sheet(2, 8, 3);
        CHECK.due("40", x.read(2, 0, 50), 40);
        x.sheet(2, 8, 0);
        CHECK.due("none more", x.read(2, 0, 50), 40);
    }

    private static void toldAll() {
        TownAsks x = new TownAsks();
        Check.useText(x, "a001;a111;s012;");
        Check.feedAll(x, "a0");
        x.ask(1, 0, 0, 0, 3);
        x.ask(1, 0, 0, 0, 4);
        x.ask(1, 9, 9, 0, 5);
        x.ask(2, 9, 9, 0, 6);
        CHECK.due("close for desk 1", x.close(1, 9), 1);
        CHECK.due("close for desk 0", x.close(2, 9), 0);
        int[] want = {4, 3, 1, 3, 2, 2, 6, 0};
        for (int what = 0; what < want.length; what++) {
            CHECK.due("told(" + what + ")", x.told(what), want[what]);
        }
        CHECK.due("what 8", x.told(8), Check.BEYOND);
        CHECK.due("what -1", x.told(-1), Check.BEYOND);
        CHECK.due("these too", x.told(7), 2);
        CHECK.due("told(7) is none", x.told(7), 2);
    }
}
