import java.util.Random;

/** Runs of 512 drawn calls on the class and on the model: each answer is to be the same. */
public final class ModelTest {
    private static final Check CHECK = new Check("ModelTest");
    private static final int RUNS = 3000;
    private static final int[] ODD = {
        Integer.MIN_VALUE, Integer.MAX_VALUE, -1, 41, 1000, 1024, Integer.MIN_VALUE + 1, 65536, -1000001,
    };

    private final Random random;
    private final TownAsks real = new TownAsks();
    private final Model model = new Model();
    private int day = 0;
    /** How wide apart a run's asks are: narrow runs join much, wide ones little. */
    private final int width;

    private ModelTest(long seed) {
        random = new Random(seed);
        width = 4 + random.nextInt(28);
    }

    public static void main(String[] args) {
        for (int run = 0; run < RUNS; run++) {
            new ModelTest(run).play(run);
        }
        CHECK.finish();
    }

    private void play(int run) {
        for (int call = 0; call < 512; call++) {
            oneCall("run " + run + ", call " + call + ": ");
        }
    }

    /** Mostly a number from least to most; at times one just beyond it or an odd one. */
    private int draw(int least, int most) {
        int dice = random.nextInt(60);
        if (dice == 0) {
            return least - 1;
        }
        if (dice == 1) {
            return most + 1;
        }
        if (dice == 2) {
            return ODD[random.nextInt(ODD.length)];
        }
        return least + random.nextInt(Math.max(1, most - least + 1));
    }

    private int drawThing() {
        return draw(0, Math.max(0, real.told(1) - 1 + beat(model.told(1), real.told(1))));
    }

    private int drawAsk() {
        return draw(0, Math.max(0, real.told(0) - 1 + beat(model.told(0), real.told(0))));
    }

    /** Both told the same, so that what is drawn by one holds for the other. */
    private static int beat(int a, int b) {
        return a == b ? 0 : 1;
    }

    private int drawPlace() {
        return random.nextInt(12) == 0 ? draw(0, 31) : Math.min(31, 16 - width / 2 + random.nextInt(width));
    }

    private int drawDay() {
        if (random.nextInt(12) == 0) {
            return draw(0, 999);
        }
        return random.nextInt(3) == 0 ? day + random.nextInt(12) : day;
    }

    private void oneCall(String at) {
        switch (random.nextInt(34)) {
            case 0, 1, 2 -> anAsk(at);
            case 3 -> someMarks(at);
            case 4 -> {
                int a = drawAsk();
                int b = drawAsk();
                same(at + "meet", real.meet(a, b), model.meet(a, b), a, b);
            }
            case 5 -> {
                int a = drawAsk();
                int what = draw(0, 6);
                same(at + "of", real.of(a, what), model.of(a, what), a, what);
            }
            case 6 -> {
                int a = drawAsk();
                int kind = draw(0, 4);
                same(at + "as", real.as(a, kind), model.as(a, kind), a, kind);
            }
            case 7 -> {
                int from = drawAsk();
                int n = draw(0, random.nextInt(20) == 0 ? 12 : 7);
                same(at + "fewest", real.fewest(from, n), model.fewest(from, n), from, n);
            }
            case 8, 9 -> {
                int t = drawThing();
                int what = draw(0, 8);
                same(at + "thing", real.thing(t, what), model.thing(t, what), t, what);
            }
            case 10 -> {
                int t = drawThing();
                int i = draw(0, 5);
                same(at + "asked", real.asked(t, i), model.asked(t, i), t, i);
            }
            case 11, 12 -> aText(at);
            case 13 -> aFeed(at);
            case 14, 15 -> {
                int t = drawThing();
                same(at + "whose", real.whose(t), model.whose(t), t);
                same(at + "sent", real.sent(t), model.sent(t), t);
                same(at + "promise", real.promise(t), model.promise(t), t);
            }
            case 16 -> {
                int kind = draw(0, 4);
                int hours = draw(1, random.nextBoolean() ? 8 : 40);
                same(at + "effort", real.effort(kind, hours), model.effort(kind, hours), kind, hours);
            }
            case 17, 18 -> anOrder(at);
            case 19, 20, 21 -> {
                int t = drawThing();
                int on = random.nextInt(4) == 0 ? draw(0, 999) : day + random.nextInt(9);
                same(at + "close", real.close(t, on), model.close(t, on), t, on);
            }
            case 22, 23 -> {
                int t = drawThing();
                boolean is = random.nextInt(3) == 0;
                same(at + "look", real.look(t, is), model.look(t, is), t, is ? 1 : 0);
            }
            case 24 -> {
                int desk = draw(0, 5);
                int what = draw(0, 3);
                same(at + "closings", real.closings(desk, what), model.closings(desk, what), desk, what);
            }
            case 25 -> {
                int quarter = draw(0, 3);
                int seen = draw(0, random.nextBoolean() ? 10 : 1000);
                int asked = draw(0, seen);
                same(at + "walk", real.walk(quarter, seen, asked), model.walk(quarter, seen, asked), quarter, seen, asked);
            }
            case 26, 27 -> {
                int quarter = draw(0, 3);
                int what = draw(0, 4);
                same(at + "quarter", real.quarter(quarter, what), model.quarter(quarter, what), quarter, what);
            }
            default -> aSheetCall(at);
        }
    }

    private void anAsk(String at) {
        // A run in which asks come only now and then stays open to reads for longer.
        if (real.told(0) > 25 && random.nextInt(4) != 0) {
            return;
        }
        int kind = draw(0, 4);
        int x = drawPlace();
        int y = drawPlace();
        int doubt = random.nextInt(3) == 0 ? draw(0, 9) : 0;
        int on = drawDay();
        same(at + "ask", real.ask(kind, x, y, doubt, on), model.ask(kind, x, y, doubt, on), kind, x, y, doubt, on);
        day = real.told(6);
    }

    private void someMarks(String at) {
        int kind = draw(0, 4);
        int near = draw(0, 20);
        int apart = draw(0, 99);
        same(at + "marks", real.marks(kind, near, apart), model.marks(kind, near, apart), kind, near, apart);
    }

    private void aText(String at) {
        StringBuilder rows = new StringBuilder();
        int count = random.nextInt(random.nextInt(8) == 0 ? 15 : 9);
        for (int i = 0; i < count; i++) {
            int first = random.nextInt(6);
            if (random.nextInt(3) == 0) {
                rows.append('a').append(first % 5).append(random.nextInt(6)).append(1 + random.nextInt(9));
            } else {
                rows.append('s').append(first).append(random.nextInt(4));
                rows.append((first + 1 + random.nextInt(5)) % 6);
            }
            rows.append(';');
        }
        if (rows.length() > 0 && random.nextInt(8) == 0) {
            rows.setCharAt(random.nextInt(rows.length()), "as0123456789;/:".charAt(random.nextInt(15)));
        }
        if (rows.length() > 0 && random.nextInt(12) == 0) {
            rows.setLength(random.nextInt(rows.length()));
        }
        int place = 0;
        while (place < rows.length()) {
            int n = Math.min(1 + random.nextInt(8), rows.length() - place);
            long w = random.nextLong();
            for (int i = 0; i < n; i++) {
                w &= ~(255L << 8 * i);
                w |= (long) rows.charAt(place + i) << 8 * i;
            }
            same(at + "feed", real.feed(w, n), model.feed(w, n), n);
            place += n;
        }
        same(at + "text of " + rows, real.text(), model.text());
    }

    private void aFeed(String at) {
        long w = random.nextLong();
        int n = draw(1, 8);
        same(at + "feed", real.feed(w, n), model.feed(w, n), n);
        if (random.nextInt(3) != 0) {
            same(at + "text", real.text(), model.text());
        }
    }

    private void anOrder(String at) {
        int first = drawThing();
        int set = random.nextInt(4) == 0 ? draw(1, 255) : random.nextInt(64) & random.nextInt(64);
        int place = draw(0, 1023);
        int on = random.nextInt(8) == 0 ? draw(0, 999) : Math.min(999, day + random.nextInt(6));
        int what = draw(0, 8);
        same(at + "order", real.order(first, set, place, on, what), model.order(first, set, place, on, what),
                first, set, place, on, what);
    }

    private void aSheetCall(String at) {
        int s = draw(0, 3);
        int kind = draw(0, 4);
        switch (random.nextInt(7)) {
            case 0 -> {
                int bits = random.nextInt(9) == 0 ? draw(0, 64) : 8 << random.nextInt(3);
                int n = draw(0, random.nextBoolean() ? 12 : 3);
                same(at + "sheet", real.sheet(s, bits, n), model.sheet(s, bits, n), s, bits, n);
            }
            case 1, 2, 3 -> {
                int i = draw(0, 11);
                int v = random.nextInt(6) == 0 ? random.nextInt() : random.nextInt(random.nextBoolean() ? 128 : 1024);
                same(at + "write", real.write(s, i, v), model.write(s, i, v), s, i, v);
            }
            case 4 -> {
                int t = draw(0, 3);
                int from = draw(0, 4);
                int to = draw(0, 4);
                int n = draw(0, 6);
                same(at + "copy", real.copy(s, from, t, to, n), model.copy(s, from, t, to, n), s, from, t, to, n);
            }
            case 5 -> {
                int on = drawDay();
                same(at + "read", real.read(s, kind, on), model.read(s, kind, on), s, kind, on);
                day = real.told(6);
            }
            default -> {
                int what = draw(0, 7);
                same(at + "told", real.told(what), model.told(what), what);
            }
        }
    }

    private static void same(String call, int got, int want, int... args) {
        CHECK.due(got == want ? call : call + java.util.Arrays.toString(args), got, want);
    }
}
