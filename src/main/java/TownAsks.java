/**
 * A town's asks: what people tell of is joined to things, a text says whose each thing is and by
 * when, a crew gets its order, and what was closed is looked at again.
 *
 * <p>Every act answers an int; one below -1000000 that stands in the document's list is a finding.
 */
public final class TownAsks {
    private static final int BEYOND = -1000001;
    private static final int FULL = -1000002;
    private static final int OTHER_KIND = -1000003;
    private static final int NONE = -1000004;
    private static final int STATE = -1000005;
    private static final int LARGE = -1000006;
    private static final int RING = -1000007;
    private static final int MISSING = -1000008;
    private static final int SIZE = -1000009;
    private static final int WRONG = -1000100;

    private static final int MOST_ASKS = 40;
    private static final int KINDS = 5;
    private static final int SIDE = 32;
    private static final int QUARTERS = 4;
    private static final int DESKS = 6;
    private static final int LAST_DAY = 999;
    private static final int MOST_PARTED = 12;
    private static final int MOST_ORDERED = 6;
    private static final int SET_BITS = 8;
    private static final int SHEETS = 4;
    private static final int MOST_NUMBERS = 12;
    private static final int NO = -1;

    /** The KIND above each KIND; the one above all has none. */
    private static final int[] ABOVE = {NO, 0, 0, 0, 2};

    private final Asks asks;
    private final Things things;
    private final Parting parting;
    private final Tape tape;
    private final DeskText deskText;
    private final Crew crew;
    private final int[] effortOf;
    private final Tally tally;
    private final int[] walkedSeen;
    private final int[] walkedAsked;
    private final Sheet[] sheets;
    private int findings;

    public TownAsks() {
        asks = new Asks();
        things = new Things();
        parting = new Parting();
        tape = new Tape();
        deskText = new DeskText();
        crew = new Crew();
        effortOf = new int[] {4, 4, 4, 4, 4};
        tally = new Tally();
        walkedSeen = new int[QUARTERS];
        walkedAsked = new int[QUARTERS];
        sheets = new Sheet[SHEETS];
        for (int s = 0; s < SHEETS; s++) {
            sheets[s] = new Sheet();
        }
        findings = 0;
    }

    // ---- asks

    public int ask(int kind, int x, int y, int doubt, int day) {
        boolean placed = within(x, 0, SIDE - 1) && within(y, 0, SIDE - 1);
        if (!isKind(kind) || !placed || !within(doubt, 0, 9) || !canComeOn(day)) {
            return finding(BEYOND);
        }
        if (asks.count >= MOST_ASKS) {
            return finding(FULL);
        }
        return join(kind, x, y, doubt, day);
    }

    public int marks(int kind, int near, int apart) {
        if (!isKind(kind) || !within(near, 0, 20) || !within(apart, 0, 99)) {
            return finding(BEYOND);
        }
        asks.near[kind] = near;
        asks.apart[kind] = apart;
        return 1;
    }

    public int meet(int a, int b) {
        if (!isAsk(a) || !isAsk(b) || a == b) {
            return finding(BEYOND);
        }
        return asks.areMeeting(a, b) ? 1 : 0;
    }

    public int of(int ask, int what) {
        if (!isAsk(ask) || !within(what, 0, 6)) {
            return finding(BEYOND);
        }
        return asks.detail(ask, what);
    }

    public int as(int ask, int kind) {
        if (!isAsk(ask) || !isKind(kind)) {
            return finding(BEYOND);
        }
        if (!isOrIsUnder(asks.kind[ask], kind)) {
            return finding(OTHER_KIND);
        }
        return asks.thing[ask];
    }

    public int fewest(int from, int n) {
        if (from < 0 || n < 0 || n > asks.count - from) {
            return finding(BEYOND);
        }
        if (n > MOST_PARTED) {
            return finding(LARGE);
        }
        return parting.fewestSets(asks, from, n);
    }

    // ---- things

    public int thing(int t, int what) {
        if (!isThing(t) || !within(what, 0, 8)) {
            return finding(BEYOND);
        }
        return what < 4 ? placeDetail(t, what) : stateDetail(t, what);
    }

    public int asked(int t, int i) {
        if (!isThing(t) || i < 0) {
            return finding(BEYOND);
        }
        return asks.nthOfThing(t, i);
    }

    // ---- desks

    public int feed(long w, int n) {
        if (!within(n, 1, 8)) {
            return finding(BEYOND);
        }
        if (tape.length + n > Tape.MOST) {
            return finding(FULL);
        }
        tape.append(w, n);
        return tape.length;
    }

    public int text() {
        int wrong = deskText.wrongPlace(tape);
        if (wrong == NO) {
            deskText.load(tape);
        }
        tape.length = 0;
        return wrong == NO ? deskText.rows : finding(WRONG - wrong);
    }

    public int whose(int t) {
        if (!isThing(t)) {
            return finding(BEYOND);
        }
        int desk = ownerOf(t);
        return desk < 0 ? finding(desk) : desk;
    }

    public int promise(int t) {
        if (!isThing(t)) {
            return finding(BEYOND);
        }
        int days = deskText.daysFor(kindOf(t));
        return days == NO ? finding(NONE) : dayOf(t) + days;
    }

    public int sent(int t) {
        if (!isThing(t)) {
            return finding(BEYOND);
        }
        int desk = deskText.firstDeskFor(kindOf(t));
        return desk == NO ? finding(NONE) : deskText.rowsGoneBy(desk, quarterOfThing(t));
    }

    // ---- crews

    public int effort(int kind, int hours) {
        if (!isKind(kind) || !within(hours, 1, 40)) {
            return finding(BEYOND);
        }
        int before = effortOf[kind];
        effortOf[kind] = hours;
        return before;
    }

    public int order(int first, int set, int place, int day, int what) {
        boolean begins = isPlace(place) && isDay(day);
        if (first < 0 || !begins || what < 0 || !areThings(first, set)) {
            return finding(BEYOND);
        }
        if (Integer.bitCount(set) > MOST_ORDERED) {
            return finding(LARGE);
        }
        crew.begin(day);
        for (int i = 0; i < SET_BITS; i++) {
            if (hasBit(set, i)) {
                giveToCrew(first + i);
            }
        }
        crew.findOrder(place / SIDE, place % SIDE);
        return crew.detail(what);
    }

    // ---- closed and looked at

    public int close(int t, int day) {
        if (!isThing(t) || !isDay(day)) {
            return finding(BEYOND);
        }
        if (!things.open[t] || day < dayOf(t)) {
            return finding(STATE);
        }
        int desk = ownerOf(t);
        if (desk < 0) {
            return finding(desk);
        }
        things.shut(t, day, desk);
        tally.closed[desk]++;
        return desk;
    }

    public int look(int t, boolean is) {
        if (!isThing(t)) {
            return finding(BEYOND);
        }
        if (things.open[t] || things.lookedAt[t]) {
            return finding(STATE);
        }
        tally.countLook(things.closer[t], is);
        if (is) {
            things.lookedAt[t] = true;
        } else {
            things.open[t] = true;
        }
        return 1;
    }

    public int closings(int desk, int what) {
        if (!within(desk, 0, DESKS - 1) || !within(what, 0, 3)) {
            return finding(BEYOND);
        }
        return tally.detail(desk, what);
    }

    // ---- quarters

    public int walk(int quarter, int seen, int asked) {
        if (!isQuarter(quarter) || !within(seen, 0, 1000) || !within(asked, 0, seen)) {
            return finding(BEYOND);
        }
        walkedSeen[quarter] = seen;
        walkedAsked[quarter] = asked;
        return 1;
    }

    public int quarter(int quarter, int what) {
        if (!isQuarter(quarter) || !within(what, 0, 4)) {
            return finding(BEYOND);
        }
        switch (what) {
            case 0:
                return thingsIn(quarter, false);
            case 1:
                return asks.countIn(quarter);
            case 2:
                return thingsIn(quarter, true);
            case 3:
                return askedOfHundred(quarter);
            default:
                return thingsReckoned(quarter);
        }
    }

    // ---- sheets

    public int sheet(int s, int bits, int n) {
        if (!isSheet(s) || !(bits == 0 || bits == 8 || bits == 16 || bits == 32)) {
            return finding(BEYOND);
        }
        if (n < 0) {
            return finding(SIZE);
        }
        if (n > MOST_NUMBERS) {
            return finding(BEYOND);
        }
        sheets[s].begin(bits, n);
        return sheets[s].size;
    }

    public int write(int s, int i, int v) {
        if (!isSheet(s)) {
            return finding(BEYOND);
        }
        if (sheets[s].isMissing()) {
            return finding(MISSING);
        }
        if (!within(i, 0, sheets[s].size - 1)) {
            return finding(BEYOND);
        }
        return sheets[s].replace(i, v);
    }

    public int copy(int s, int from, int t, int to, int n) {
        if (!isSheet(s) || !isSheet(t)) {
            return finding(BEYOND);
        }
        Sheet source = sheets[s];
        Sheet target = sheets[t];
        if (source.isMissing() || target.isMissing()) {
            return finding(MISSING);
        }
        if (source.bits != target.bits) {
            return finding(OTHER_KIND);
        }
        if (!source.hasRange(from, n) || !target.hasRange(to, n)) {
            return finding(BEYOND);
        }
        System.arraycopy(source.numbers, from, target.numbers, to, n);
        return n;
    }

    public int read(int s, int kind, int day) {
        if (!isSheet(s) || !isKind(kind) || !canComeOn(day)) {
            return finding(BEYOND);
        }
        Sheet source = sheets[s];
        if (source.isMissing()) {
            return finding(MISSING);
        }
        if (!source.holdsPlacesAlone()) {
            return finding(BEYOND);
        }
        if (asks.count + source.size > MOST_ASKS) {
            return finding(FULL);
        }
        for (int i = 0; i < source.size; i++) {
            join(kind, source.numbers[i] / SIDE, source.numbers[i] % SIDE, 0, day);
        }
        return asks.count;
    }

    public int told(int what) {
        switch (what) {
            case 0:
                return asks.count;
            case 1:
                return things.count;
            case 2:
                return things.countOpen();
            case 3:
                return deskText.rows;
            case 4:
                return tape.length;
            case 5:
                return tally.allClosed();
            case 6:
                return asks.latestDay();
            case 7:
                return findings;
            default:
                return finding(BEYOND);
        }
    }

    // ---- what the acts share

    /** Findings are counted where they arise: a number of a sheet may look like one. */
    private int finding(int code) {
        findings++;
        return code;
    }

    private static boolean within(int value, int least, int most) {
        return value >= least && value <= most;
    }

    private static boolean hasBit(int set, int i) {
        return (set >> i & 1) != 0;
    }

    private static boolean isKind(int kind) {
        return within(kind, 0, KINDS - 1);
    }

    private static boolean isDay(int day) {
        return within(day, 0, LAST_DAY);
    }

    private static boolean isPlace(int place) {
        return within(place, 0, SIDE * SIDE - 1);
    }

    private static boolean isQuarter(int quarter) {
        return within(quarter, 0, QUARTERS - 1);
    }

    private static boolean isSheet(int s) {
        return within(s, 0, SHEETS - 1);
    }

    private boolean isAsk(int ask) {
        return within(ask, 0, asks.count - 1);
    }

    private boolean isThing(int t) {
        return within(t, 0, things.count - 1);
    }

    private boolean canComeOn(int day) {
        return isDay(day) && day >= asks.latestDay();
    }

    /** Whether the set is one of 1 to 255 and all that it names exist; first is not below 0. */
    private boolean areThings(int first, int set) {
        if (!within(set, 1, (1 << SET_BITS) - 1)) {
            return false;
        }
        int left = things.count - first;
        return left >= SET_BITS || left > 0 && set < 1 << left;
    }

    private static boolean isOrIsUnder(int kind, int over) {
        int at = kind;
        for (int step = 0; step < KINDS && at != NO; step++) {
            if (at == over) {
                return true;
            }
            at = ABOVE[at];
        }
        return false;
    }

    private static int quarterAt(int x, int y) {
        return (x >= SIDE / 2 ? 1 : 0) + (y >= SIDE / 2 ? 2 : 0);
    }

    private static int far(int x1, int y1, int x2, int y2) {
        return Math.abs(x1 - x2) + Math.abs(y1 - y2);
    }

    /** Takes in an ask that has been found to be as told, while there is room for it. */
    private int join(int kind, int x, int y, int doubt, int day) {
        int ask = asks.add(kind, x, y, doubt, day);
        int t = firstOpenThingFor(ask);
        if (t == NO) {
            t = things.begin(ask);
        }
        asks.thing[ask] = t;
        return t;
    }

    private int firstOpenThingFor(int ask) {
        for (int t = 0; t < things.count; t++) {
            if (things.open[t] && asks.meetsAllOfThing(ask, t)) {
                return t;
            }
        }
        return NO;
    }

    private int kindOf(int t) {
        return asks.kind[things.firstAsk[t]];
    }

    private int dayOf(int t) {
        return asks.day[things.firstAsk[t]];
    }

    private int quarterOfThing(int t) {
        return asks.quarterOfAsk(things.firstAsk[t]);
    }

    private int placeDetail(int t, int what) {
        int ask = things.firstAsk[t];
        switch (what) {
            case 0:
                return asks.kind[ask];
            case 1:
                return asks.x[ask];
            case 2:
                return asks.y[ask];
            default:
                return asks.day[ask];
        }
    }

    private int stateDetail(int t, int what) {
        switch (what) {
            case 4:
                return asks.countOfThing(t);
            case 5:
                return things.open[t] ? 1 : 0;
            case 6:
                return things.timesClosed[t];
            case 7:
                return things.closedDay[t];
            default:
                return !things.open[t] && things.lookedAt[t] ? 1 : 0;
        }
    }

    /** The desk whose a thing is, or the finding why there is none. */
    private int ownerOf(int t) {
        int desk = deskText.firstDeskFor(kindOf(t));
        return desk == NO ? NONE : deskText.lastDeskFrom(desk, quarterOfThing(t));
    }

    private void giveToCrew(int t) {
        int ask = things.firstAsk[t];
        int days = deskText.daysFor(asks.kind[ask]);
        int due = days == NO ? Crew.NEVER_DUE : asks.day[ask] + days;
        crew.take(t, asks.x[ask], asks.y[ask], effortOf[asks.kind[ask]], due);
    }

    private int thingsIn(int quarter, boolean closedAlone) {
        int count = 0;
        for (int t = 0; t < things.count; t++) {
            if (quarterOfThing(t) == quarter && !(closedAlone && things.open[t])) {
                count++;
            }
        }
        return count;
    }

    private int askedOfHundred(int quarter) {
        int seen = walkedSeen[quarter];
        return seen == 0 ? 100 : walkedAsked[quarter] * 100 / seen;
    }

    private int thingsReckoned(int quarter) {
        int share = askedOfHundred(quarter);
        return share == 0 ? finding(NONE) : thingsIn(quarter, false) * 100 / share;
    }

    /** The asks in the order in which they came, and the marks by which they meet. */
    private static final class Asks {
        private final int[] kind = new int[MOST_ASKS];
        private final int[] x = new int[MOST_ASKS];
        private final int[] y = new int[MOST_ASKS];
        private final int[] doubt = new int[MOST_ASKS];
        private final int[] day = new int[MOST_ASKS];
        private final int[] thing = new int[MOST_ASKS];
        private final int[] near = {2, 2, 2, 2, 2};
        private final int[] apart = {30, 30, 30, 30, 30};
        private int count = 0;

        int add(int newKind, int newX, int newY, int newDoubt, int newDay) {
            int ask = count;
            kind[ask] = newKind;
            x[ask] = newX;
            y[ask] = newY;
            doubt[ask] = newDoubt;
            day[ask] = newDay;
            thing[ask] = NO;
            count++;
            return ask;
        }

        int latestDay() {
            return count == 0 ? 0 : day[count - 1];
        }

        boolean areMeeting(int a, int b) {
            if (kind[a] != kind[b]) {
                return false;
            }
            int reach = near[kind[a]] + doubt[a] + doubt[b];
            return far(x[a], y[a], x[b], y[b]) <= reach
                    && Math.abs(day[a] - day[b]) <= apart[kind[a]];
        }

        boolean meetsAllOfThing(int ask, int t) {
            for (int other = 0; other < count; other++) {
                if (thing[other] == t && !areMeeting(other, ask)) {
                    return false;
                }
            }
            return true;
        }

        int countOfThing(int t) {
            int found = 0;
            for (int ask = 0; ask < count; ask++) {
                if (thing[ask] == t) {
                    found++;
                }
            }
            return found;
        }

        int nthOfThing(int t, int n) {
            int ahead = n;
            for (int ask = 0; ask < count; ask++) {
                if (thing[ask] == t) {
                    if (ahead == 0) {
                        return ask;
                    }
                    ahead--;
                }
            }
            return NO;
        }

        int quarterOfAsk(int ask) {
            return quarterAt(x[ask], y[ask]);
        }

        int countIn(int quarter) {
            int found = 0;
            for (int ask = 0; ask < count; ask++) {
                if (quarterOfAsk(ask) == quarter) {
                    found++;
                }
            }
            return found;
        }

        int detail(int ask, int what) {
            switch (what) {
                case 0:
                    return kind[ask];
                case 1:
                    return x[ask];
                case 2:
                    return y[ask];
                case 3:
                    return doubt[ask];
                case 4:
                    return day[ask];
                case 5:
                    return thing[ask];
                default:
                    return quarterOfAsk(ask);
            }
        }
    }

    /** The things: each has its first ask, and what became of it. */
    private static final class Things {
        private final int[] firstAsk = new int[MOST_ASKS];
        private final boolean[] open = new boolean[MOST_ASKS];
        private final int[] timesClosed = new int[MOST_ASKS];
        private final int[] closedDay = new int[MOST_ASKS];
        private final int[] closer = new int[MOST_ASKS];
        private final boolean[] lookedAt = new boolean[MOST_ASKS];
        private int count = 0;

        /** There are never more things than asks, so there is room for one more. */
        int begin(int ask) {
            int t = count;
            firstAsk[t] = ask;
            open[t] = true;
            closedDay[t] = NO;
            count++;
            return t;
        }

        void shut(int t, int day, int desk) {
            open[t] = false;
            timesClosed[t]++;
            closedDay[t] = day;
            closer[t] = desk;
            lookedAt[t] = false;
        }

        int countOpen() {
            int found = 0;
            for (int t = 0; t < count; t++) {
                if (open[t]) {
                    found++;
                }
            }
            return found;
        }
    }

    /** Parts asks into the fewest sets any two of which meet, by trying all that could be fewer. */
    private static final class Parting {
        private final int[] meetingOf = new int[MOST_PARTED];
        private final int[] setOf = new int[MOST_PARTED];
        private int count;
        private int best;

        int fewestSets(Asks asks, int from, int n) {
            for (int i = 0; i < n; i++) {
                meetingOf[i] = 0;
                for (int j = 0; j < i; j++) {
                    if (asks.areMeeting(from + i, from + j)) {
                        meetingOf[i] |= 1 << j;
                    }
                }
            }
            count = n;
            best = n;
            putFrom(0, 0);
            return best;
        }

        private void putFrom(int i, int sets) {
            if (sets >= best) {
                return;
            }
            if (i >= count) {
                best = sets;
                return;
            }
            for (int s = 0; s < sets; s++) {
                if ((setOf[s] & ~meetingOf[i]) == 0) {
                    setOf[s] |= 1 << i;
                    putFrom(i + 1, sets);
                    setOf[s] &= ~(1 << i);
                }
            }
            setOf[sets] = 1 << i;
            putFrom(i + 1, sets + 1);
        }
    }

    /** The bytes that were fed and not yet made a text. */
    private static final class Tape {
        private static final int MOST = 80;

        private final int[] signs = new int[MOST];
        private int length = 0;

        void append(long w, int n) {
            for (int i = 0; i < n; i++) {
                signs[length] = (int) (w >>> 8 * i) & 255;
                length++;
            }
        }
    }

    /** The text that says whose a thing is: rows of a letter, three digits and a ;. */
    private static final class DeskText {
        private static final int ROW_LENGTH = 5;
        private static final int MOST_ROWS = 12;
        private static final char GIVES = 'a';
        private static final char SENDS = 's';

        private final int[] letter = new int[MOST_ROWS];
        private final int[] firstDigit = new int[MOST_ROWS];
        private final int[] secondDigit = new int[MOST_ROWS];
        private final int[] thirdDigit = new int[MOST_ROWS];
        private int rows = 0;

        /** Where a tape can't be a text, or NO if it can. */
        int wrongPlace(Tape tape) {
            for (int place = 0; place < tape.length; place++) {
                if (place >= MOST_ROWS * ROW_LENGTH || !canStand(tape.signs, place)) {
                    return place;
                }
            }
            return tape.length % ROW_LENGTH == 0 ? NO : tape.length;
        }

        private static boolean canStand(int[] signs, int place) {
            int column = place % ROW_LENGTH;
            int start = place - column;
            int digit = signs[place] - '0';
            boolean gives = signs[start] == GIVES;
            switch (column) {
                case 0:
                    return gives || signs[start] == SENDS;
                case 1:
                    return within(digit, 0, gives ? KINDS - 1 : DESKS - 1);
                case 2:
                    return within(digit, 0, gives ? DESKS - 1 : QUARTERS - 1);
                case 3:
                    return gives ? within(digit, 1, 9)
                            : within(digit, 0, DESKS - 1) && signs[place] != signs[start + 1];
                default:
                    return signs[place] == ';';
            }
        }

        /** Takes a tape on which no place is wrong. */
        void load(Tape tape) {
            rows = tape.length / ROW_LENGTH;
            for (int row = 0; row < rows; row++) {
                int start = row * ROW_LENGTH;
                letter[row] = tape.signs[start];
                firstDigit[row] = tape.signs[start + 1] - '0';
                secondDigit[row] = tape.signs[start + 2] - '0';
                thirdDigit[row] = tape.signs[start + 3] - '0';
            }
        }

        int firstDeskFor(int kind) {
            int row = rowFor(kind);
            return row == NO ? NO : secondDigit[row];
        }

        int daysFor(int kind) {
            int row = rowFor(kind);
            return row == NO ? NO : thirdDigit[row];
        }

        private int rowFor(int kind) {
            int at = kind;
            for (int step = 0; step < KINDS && at != NO; step++) {
                int row = rowForJust(at);
                if (row != NO) {
                    return row;
                }
                at = ABOVE[at];
            }
            return NO;
        }

        private int rowForJust(int kind) {
            for (int row = 0; row < rows; row++) {
                if (letter[row] == GIVES && firstDigit[row] == kind) {
                    return row;
                }
            }
            return NO;
        }

        private int nextDesk(int desk, int quarter) {
            for (int row = 0; row < rows; row++) {
                boolean leadsOn = letter[row] == SENDS && firstDigit[row] == desk;
                if (leadsOn && secondDigit[row] == quarter) {
                    return thirdDigit[row];
                }
            }
            return NO;
        }

        /** How many rows lead on from a desk till there is none, or till a desk comes twice. */
        int rowsGoneBy(int desk, int quarter) {
            int at = desk;
            int been = 1 << desk;
            for (int gone = 0; gone < DESKS; gone++) {
                at = nextDesk(at, quarter);
                if (at == NO) {
                    return gone;
                }
                if (hasBit(been, at)) {
                    return gone + 1;
                }
                been |= 1 << at;
            }
            return DESKS;
        }

        /** The desk at which the way ends, or RING: only in a ring a row leads on from there. */
        int lastDeskFrom(int desk, int quarter) {
            int at = desk;
            int ways = rowsGoneBy(desk, quarter);
            for (int gone = 0; gone < ways; gone++) {
                at = nextDesk(at, quarter);
            }
            return nextDesk(at, quarter) == NO ? at : RING;
        }
    }

    /** A crew that begins somewhere on a day, and the order in which it does what it was given. */
    private static final class Crew {
        private static final int NEVER_DUE = 1000000;
        private static final int HOURS_A_DAY = 8;
        private static final int FAR_AN_HOUR = 8;

        private final int[] thing = new int[MOST_ORDERED];
        private final int[] x = new int[MOST_ORDERED];
        private final int[] y = new int[MOST_ORDERED];
        private final int[] hoursFor = new int[MOST_ORDERED];
        private final int[] due = new int[MOST_ORDERED];
        private final int[] tried = new int[MOST_ORDERED];
        private final int[] best = new int[MOST_ORDERED];
        private int count;
        private int firstDay;
        private int bestBroken;
        private int bestHours;

        void begin(int day) {
            count = 0;
            firstDay = day;
        }

        /** What comes beyond the most that a crew can order is left out. */
        void take(int t, int atX, int atY, int hours, int dueDay) {
            if (count < MOST_ORDERED) {
                thing[count] = t;
                x[count] = atX;
                y[count] = atY;
                hoursFor[count] = hours;
                due[count] = dueDay;
                count++;
            }
        }

        void findOrder(int fromX, int fromY) {
            bestBroken = count + 1;
            bestHours = 0;
            goOn(0, 0, fromX, fromY, 0, 0);
        }

        /** Lesser things are tried first, so an order that is only as good never comes in. */
        private void goOn(int depth, int done, int atX, int atY, int hours, int broken) {
            if (broken > bestBroken || broken == bestBroken && hours >= bestHours) {
                return;
            }
            if (depth >= count) {
                keepTried(hours, broken);
                return;
            }
            for (int i = 0; i < count; i++) {
                if (!hasBit(done, i)) {
                    int then = hours + far(atX, atY, x[i], y[i]) / FAR_AN_HOUR + hoursFor[i];
                    int doneDay = firstDay + (then - 1) / HOURS_A_DAY;
                    tried[depth] = i;
                    goOn(depth + 1, done | 1 << i, x[i], y[i], then,
                            doneDay > due[i] ? broken + 1 : broken);
                }
            }
        }

        private void keepTried(int hours, int broken) {
            bestBroken = broken;
            bestHours = hours;
            for (int i = 0; i < count; i++) {
                best[i] = tried[i];
            }
        }

        int detail(int what) {
            switch (what) {
                case 0:
                    return bestBroken;
                case 1:
                    return bestHours;
                default:
                    return within(what - 2, 0, count - 1) ? thing[best[what - 2]] : NO;
            }
        }
    }

    /** What each desk closed, and what was found when it was looked at. */
    private static final class Tally {
        private final int[] closed = new int[DESKS];
        private final int[] looked = new int[DESKS];
        private final int[] foundFalse = new int[DESKS];

        void countLook(int desk, boolean is) {
            looked[desk]++;
            if (!is) {
                foundFalse[desk]++;
            }
        }

        int allClosed() {
            int all = 0;
            for (int desk = 0; desk < DESKS; desk++) {
                all += closed[desk];
            }
            return all;
        }

        int detail(int desk, int what) {
            switch (what) {
                case 0:
                    return closed[desk];
                case 1:
                    return looked[desk];
                case 2:
                    return foundFalse[desk];
                default:
                    return foundFalse[desk] + closed[desk] - looked[desk];
            }
        }
    }

    /** A row of numbers of so many bits; of 0 bits if it is missing. */
    private static final class Sheet {
        private final int[] numbers = new int[MOST_NUMBERS];
        private int bits = 0;
        private int size = 0;

        boolean isMissing() {
            return bits == 0;
        }

        void begin(int newBits, int n) {
            bits = newBits;
            size = newBits == 0 ? 0 : n;
            for (int i = 0; i < MOST_NUMBERS; i++) {
                numbers[i] = 0;
            }
        }

        int replace(int i, int v) {
            int before = numbers[i];
            numbers[i] = lowestBits(v);
            return before;
        }

        private int lowestBits(int v) {
            if (bits == 8) {
                return (byte) v;
            }
            return bits == 16 ? (short) v : v;
        }

        boolean hasRange(int from, int n) {
            return from >= 0 && n >= 0 && n <= size - from;
        }

        boolean holdsPlacesAlone() {
            for (int i = 0; i < size; i++) {
                if (!isPlace(numbers[i])) {
                    return false;
                }
            }
            return true;
        }
    }
}
