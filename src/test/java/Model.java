import java.util.ArrayList;
import java.util.Arrays;
import java.util.List;

/**
 * The document once more, written apart from the class and as plainly as can be: lists and the
 * trying of every case, where the class searches. ModelTest sets the two beside one another.
 */
final class Model {
    private static final class Ask {
        int kind;
        int x;
        int y;
        int doubt;
        int day;
        Thing thing;
    }

    private static final class Thing {
        final List<Ask> asks = new ArrayList<>();
        boolean open = true;
        final List<int[]> closed = new ArrayList<>();

        Ask first() {
            return asks.get(0);
        }
    }

    private static final int SUM = -1000000;

    private final List<Ask> asks = new ArrayList<>();
    private final List<Thing> things = new ArrayList<>();
    private final int[][] marks = {{2, 30}, {2, 30}, {2, 30}, {2, 30}, {2, 30}};
    private String tape = "";
    private String text = "";
    private final int[] effort = {4, 4, 4, 4, 4};
    private final int[][] walked = new int[4][2];
    private final int[][] sheets = new int[4][];
    private final int[] bits = new int[4];
    private int found = 0;

    private int find(int n) {
        found++;
        return SUM - n;
    }

    private static boolean no(int v, int least, int most) {
        return v < least || v > most;
    }

    private int latest() {
        return asks.isEmpty() ? 0 : asks.get(asks.size() - 1).day;
    }

    private boolean meets(Ask a, Ask b) {
        int far = Math.abs(a.x - b.x) + Math.abs(a.y - b.y);
        return a.kind == b.kind && far <= marks[a.kind][0] + a.doubt + b.doubt
                && Math.abs(a.day - b.day) <= marks[a.kind][1];
    }

    private static int quarterOf(Ask a) {
        return a.x / 16 + a.y / 16 * 2;
    }

    private static List<Integer> upwards(int kind) {
        switch (kind) {
            case 0:
                return List.of(0);
            case 4:
                return List.of(4, 2, 0);
            default:
                return List.of(kind, 0);
        }
    }

    int ask(int kind, int x, int y, int doubt, int day) {
        if (no(kind, 0, 4) || no(x, 0, 31) || no(y, 0, 31) || no(doubt, 0, 9) || no(day, latest(), 999)) {
            return find(1);
        }
        if (asks.size() == 40) {
            return find(2);
        }
        Ask ask = new Ask();
        ask.kind = kind;
        ask.x = x;
        ask.y = y;
        ask.doubt = doubt;
        ask.day = day;
        for (Thing thing : things) {
            if (thing.open && thing.asks.stream().allMatch(a -> meets(a, ask))) {
                ask.thing = thing;
                break;
            }
        }
        if (ask.thing == null) {
            ask.thing = new Thing();
            things.add(ask.thing);
        }
        asks.add(ask);
        ask.thing.asks.add(ask);
        return things.indexOf(ask.thing);
    }

    int marks(int kind, int near, int apart) {
        if (no(kind, 0, 4) || no(near, 0, 20) || no(apart, 0, 99)) {
            return find(1);
        }
        marks[kind] = new int[] {near, apart};
        return 1;
    }

    private boolean noAsk(int a) {
        return no(a, 0, asks.size() - 1);
    }

    private boolean noThing(int t) {
        return no(t, 0, things.size() - 1);
    }

    int meet(int a, int b) {
        if (noAsk(a) || noAsk(b) || a == b) {
            return find(1);
        }
        return meets(asks.get(a), asks.get(b)) ? 1 : 0;
    }

    int of(int ask, int what) {
        if (noAsk(ask) || no(what, 0, 6)) {
            return find(1);
        }
        Ask a = asks.get(ask);
        return new int[] {a.kind, a.x, a.y, a.doubt, a.day, things.indexOf(a.thing), quarterOf(a)}[what];
    }

    int as(int ask, int kind) {
        if (noAsk(ask) || no(kind, 0, 4)) {
            return find(1);
        }
        Ask a = asks.get(ask);
        return upwards(a.kind).contains(kind) ? things.indexOf(a.thing) : find(3);
    }

    /** Over all sets of asks: the fewest for a set is one and the fewest for what is left. */
    int fewest(int from, int n) {
        if (from < 0 || n < 0 || (long) from + n > asks.size()) {
            return find(1);
        }
        if (n > 12) {
            return find(6);
        }
        int[] least = new int[1 << n];
        for (int set = 1; set < 1 << n; set++) {
            least[set] = 99;
            int low = set & -set;
            for (int part = set; part > 0; part = part - 1 & set) {
                if ((part & low) != 0 && least[set ^ part] + 1 < least[set] && allMeet(from, part)) {
                    least[set] = least[set ^ part] + 1;
                }
            }
        }
        return least[(1 << n) - 1];
    }

    private boolean allMeet(int from, int part) {
        for (int i = 0; i < 12; i++) {
            for (int j = 0; j < i; j++) {
                boolean both = (part >> i & part >> j & 1) != 0;
                if (both && !meets(asks.get(from + i), asks.get(from + j))) {
                    return false;
                }
            }
        }
        return true;
    }

    int thing(int t, int what) {
        if (noThing(t) || no(what, 0, 8)) {
            return find(1);
        }
        Thing thing = things.get(t);
        int times = thing.closed.size();
        int[] last = times == 0 ? new int[] {-1, 0, 0} : thing.closed.get(times - 1);
        return new int[] {
            thing.first().kind, thing.first().x, thing.first().y, thing.first().day,
            thing.asks.size(), thing.open ? 1 : 0, times, last[0], !thing.open && last[2] > 0 ? 1 : 0,
        }[what];
    }

    int asked(int t, int i) {
        if (noThing(t) || i < 0) {
            return find(1);
        }
        List<Ask> its = things.get(t).asks;
        return i < its.size() ? asks.indexOf(its.get(i)) : -1;
    }

    int feed(long w, int n) {
        if (no(n, 1, 8)) {
            return find(1);
        }
        if (tape.length() + n > 80) {
            return find(2);
        }
        for (int i = 0; i < n; i++) {
            tape += (char) (w >> 8 * i & 255);
        }
        return tape.length();
    }

    /** The longest beginning of the tape that is the beginning of some text. */
    int text() {
        String was = tape;
        tape = "";
        String row = "a[0-4][0-5][1-9];|s0[0-3][1-5];|s1[0-3][02-5];|s2[0-3][013-5];"
                + "|s3[0-3][0-245];|s4[0-3][0-35];|s5[0-3][0-4];";
        java.util.regex.Pattern whole = java.util.regex.Pattern.compile("(" + row + "){0,12}");
        if (whole.matcher(was).matches()) {
            text = was;
            return text.length() / 5;
        }
        int good = was.length();
        while (!couldGoOn(whole, was.substring(0, good))) {
            good--;
        }
        return find(100 + good);
    }

    private static boolean couldGoOn(java.util.regex.Pattern whole, String start) {
        java.util.regex.Matcher m = whole.matcher(start);
        return m.matches() || m.hitEnd();
    }

    private String row(String start, int at, int digit) {
        for (int i = 0; i < text.length(); i += 5) {
            String row = text.substring(i, i + 5);
            if (row.startsWith(start) && (at == 0 || row.charAt(at) == '0' + digit)) {
                return row;
            }
        }
        return null;
    }

    private String given(Thing thing) {
        for (int kind : upwards(thing.first().kind)) {
            String row = row("a" + kind, 0, 0);
            if (row != null) {
                return row;
            }
        }
        return null;
    }

    /** The desks that a thing comes to, in order; the last one twice if it is in a ring. */
    private List<Integer> desks(Thing thing) {
        List<Integer> way = new ArrayList<>();
        int at = given(thing).charAt(2) - '0';
        while (!way.contains(at)) {
            way.add(at);
            String row = row("s" + at, 2, quarterOf(thing.first()));
            if (row == null) {
                return way;
            }
            at = row.charAt(3) - '0';
        }
        way.add(at);
        return way;
    }

    /** The desk, or the number of the finding below 0. */
    private int owner(Thing thing) {
        if (given(thing) == null) {
            return -4;
        }
        List<Integer> way = desks(thing);
        int last = way.get(way.size() - 1);
        return way.indexOf(last) == way.size() - 1 ? last : -7;
    }

    int whose(int t) {
        if (noThing(t)) {
            return find(1);
        }
        int owner = owner(things.get(t));
        return owner < 0 ? find(-owner) : owner;
    }

    private int due(Thing thing) {
        return thing.first().day + given(thing).charAt(3) - '0';
    }

    int promise(int t) {
        if (noThing(t)) {
            return find(1);
        }
        return given(things.get(t)) == null ? find(4) : due(things.get(t));
    }

    int sent(int t) {
        if (noThing(t)) {
            return find(1);
        }
        return given(things.get(t)) == null ? find(4) : desks(things.get(t)).size() - 1;
    }

    int effort(int kind, int hours) {
        if (no(kind, 0, 4) || no(hours, 1, 40)) {
            return find(1);
        }
        int was = effort[kind];
        effort[kind] = hours;
        return was;
    }

    int order(int first, int set, int place, int day, int what) {
        if (first < 0 || no(place, 0, 1023) || no(day, 0, 999) || what < 0 || no(set, 1, 255)) {
            return find(1);
        }
        List<Integer> todo = new ArrayList<>();
        for (int i = 0; i < 8; i++) {
            if ((set & 1 << i) != 0) {
                if ((long) first + i >= things.size()) {
                    return find(1);
                }
                todo.add(first + i);
            }
        }
        if (todo.size() > 6) {
            return find(6);
        }
        List<int[]> all = new ArrayList<>();
        everyOrder(todo, new ArrayList<>(), place, day, all);
        all.sort(Arrays::compare);
        int[] best = all.get(0);
        return what < best.length ? best[what] : -1;
    }

    private void everyOrder(List<Integer> todo, List<Integer> done, int place, int day, List<int[]> all) {
        if (todo.isEmpty()) {
            all.add(run(done, place, day));
        }
        for (Integer t : todo) {
            List<Integer> less = new ArrayList<>(todo);
            less.remove(t);
            List<Integer> more = new ArrayList<>(done);
            more.add(t);
            everyOrder(less, more, place, day, all);
        }
    }

    private int[] run(List<Integer> order, int place, int day) {
        int[] result = new int[2 + order.size()];
        int x = place >> 5;
        int y = place & 31;
        for (int k = 0; k < order.size(); k++) {
            Thing thing = things.get(order.get(k));
            Ask at = thing.first();
            result[1] += (Math.abs(at.x - x) + Math.abs(at.y - y)) / 8 + effort[at.kind];
            int doneOn = day + (result[1] - 1) / 8;
            if (given(thing) != null && doneOn > due(thing)) {
                result[0]++;
            }
            result[2 + k] = order.get(k);
            x = at.x;
            y = at.y;
        }
        return result;
    }

    int close(int t, int day) {
        if (noThing(t) || no(day, 0, 999)) {
            return find(1);
        }
        Thing thing = things.get(t);
        if (!thing.open || day < thing.first().day) {
            return find(5);
        }
        int owner = owner(thing);
        if (owner < 0) {
            return find(-owner);
        }
        thing.open = false;
        thing.closed.add(new int[] {day, owner, 0});
        return owner;
    }

    int look(int t, boolean is) {
        if (noThing(t)) {
            return find(1);
        }
        Thing thing = things.get(t);
        if (thing.open || thing.closed.get(thing.closed.size() - 1)[2] != 0) {
            return find(5);
        }
        thing.closed.get(thing.closed.size() - 1)[2] = is ? 1 : 2;
        thing.open = !is;
        return 1;
    }

    int closings(int desk, int what) {
        if (no(desk, 0, 5) || no(what, 0, 3)) {
            return find(1);
        }
        int[] counts = new int[4];
        for (Thing thing : things) {
            for (int[] closing : thing.closed) {
                if (closing[1] == desk) {
                    counts[0]++;
                    counts[1] += closing[2] > 0 ? 1 : 0;
                    counts[2] += closing[2] == 2 ? 1 : 0;
                    counts[3] += closing[2] != 1 ? 1 : 0;
                }
            }
        }
        return counts[what];
    }

    int walk(int quarter, int seen, int asked) {
        if (no(quarter, 0, 3) || no(seen, 0, 1000) || no(asked, 0, seen)) {
            return find(1);
        }
        walked[quarter] = new int[] {seen, asked};
        return 1;
    }

    int quarter(int quarter, int what) {
        if (no(quarter, 0, 3) || no(what, 0, 4)) {
            return find(1);
        }
        int there = 0;
        int shut = 0;
        for (Thing thing : things) {
            if (quarterOf(thing.first()) == quarter) {
                there++;
                shut += thing.open ? 0 : 1;
            }
        }
        int told = (int) asks.stream().filter(a -> quarterOf(a) == quarter).count();
        int share = walked[quarter][0] == 0 ? 100 : 100 * walked[quarter][1] / walked[quarter][0];
        if (what == 4 && share == 0) {
            return find(4);
        }
        return new int[] {there, told, shut, share, share == 0 ? 0 : there * 100 / share}[what];
    }

    int sheet(int s, int size, int n) {
        if (no(s, 0, 3) || !List.of(0, 8, 16, 32).contains(size)) {
            return find(1);
        }
        if (n < 0) {
            return find(9);
        }
        if (n > 12) {
            return find(1);
        }
        bits[s] = size;
        sheets[s] = size == 0 ? null : new int[n];
        return size == 0 ? 0 : n;
    }

    int write(int s, int i, int v) {
        if (no(s, 0, 3)) {
            return find(1);
        }
        if (sheets[s] == null) {
            return find(8);
        }
        if (no(i, 0, sheets[s].length - 1)) {
            return find(1);
        }
        int was = sheets[s][i];
        sheets[s][i] = v << 32 - bits[s] >> 32 - bits[s];
        return was;
    }

    int copy(int s, int from, int t, int to, int n) {
        if (no(s, 0, 3) || no(t, 0, 3)) {
            return find(1);
        }
        if (sheets[s] == null || sheets[t] == null) {
            return find(8);
        }
        if (bits[s] != bits[t]) {
            return find(3);
        }
        if (from < 0 || to < 0 || n < 0 || (long) from + n > sheets[s].length || (long) to + n > sheets[t].length) {
            return find(1);
        }
        int[] were = sheets[s].clone();
        for (int i = 0; i < n; i++) {
            sheets[t][to + i] = were[from + i];
        }
        return n;
    }

    int read(int s, int kind, int day) {
        if (no(s, 0, 3) || no(kind, 0, 4) || no(day, latest(), 999)) {
            return find(1);
        }
        if (sheets[s] == null) {
            return find(8);
        }
        if (Arrays.stream(sheets[s]).anyMatch(v -> no(v, 0, 1023))) {
            return find(1);
        }
        if (asks.size() + sheets[s].length > 40) {
            return find(2);
        }
        for (int v : sheets[s]) {
            ask(kind, v >> 5, v & 31, 0, day);
        }
        return asks.size();
    }

    int told(int what) {
        if (no(what, 0, 7)) {
            return find(1);
        }
        int open = (int) things.stream().filter(t -> t.open).count();
        int closed = things.stream().mapToInt(t -> t.closed.size()).sum();
        return new int[] {
            asks.size(), things.size(), open, text.length() / 5, tape.length(), closed, latest(), found,
        }[what];
    }
}
