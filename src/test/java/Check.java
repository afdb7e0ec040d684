/** Counts answers that are not as due, and ends a test with exit code 1 if there was one. */
final class Check {
    static final int BEYOND = -1000001;
    static final int FULL = -1000002;
    static final int KIND = -1000003;
    static final int NONE = -1000004;
    static final int STATE = -1000005;
    static final int LARGE = -1000006;
    static final int RING = -1000007;
    static final int MISSING = -1000008;
    static final int SIZE = -1000009;

    private final String name;
    private int checked = 0;
    private int wrong = 0;

    Check(String name) {
        this.name = name;
    }

    static int wrongAt(int place) {
        return -1000100 - place;
    }

    void due(String call, long got, long want) {
        checked++;
        if (got != want) {
            wrong++;
            System.out.println(name + ": " + call + " answered " + got + ", due is " + want);
        }
    }

    void dueText(String what, String got, String want) {
        checked++;
        if (!got.equals(want)) {
            wrong++;
            System.out.println(name + ": " + what + "\n  is     " + got + "\n  due is " + want);
        }
    }

    void finish() {
        System.out.println(name + ": " + checked + " answers, " + wrong + " not as due");
        if (wrong != 0 || checked == 0) {
            System.exit(1);
        }
    }

    /** Puts a text's bytes on the tape, eight at a time; the last answer of feed. */
    static int feedAll(TownAsks x, String text) {
        int answer = 0;
        for (int at = 0; at < text.length(); at += 8) {
            int n = Math.min(8, text.length() - at);
            long w = 0;
            for (int i = 0; i < n; i++) {
                w |= (long) (text.charAt(at + i) & 255) << 8 * i;
            }
            answer = x.feed(w, n);
        }
        return answer;
    }

    static int useText(TownAsks x, String text) {
        feedAll(x, text);
        return x.text();
    }
}
