/** A parish whose two sides settle a case by who goes longest without bacon. */
public final class RasherCase {

    public static final int NONE = -1, BAD = -2, NO = -3, FULL = -4;

    private static final int WIDTH = 5;
    private static final int CELLS = 25;
    private static final int KINDS = 6;
    private static final int MOST_FLITCHES = 3;
    private static final int MOST_FAMILIES = 7;
    private static final int MOST_STRENGTH = 20;
    private static final int MOST_WILL = 99;
    private static final int LAST_DAY = 9999;
    private static final int HORIZON = 60;
    private static final int MOST_MORNINGS = 6;
    private static final int MOST_BYTES = 150;
    private static final int MOST_PAST = 8;
    private static final int IMAGES = 2;
    private static final int COUNTS = 11;

    /** Stands for BAD where -2 is an answer or an argument of its own, and is taken from a fault's place. */
    private static final int APART = -10;
    private static final int NOT_SO_MANY = -5;
    private static final int WAY_SMELL = -2;
    private static final int WAY_STEPS = -3;

    private final Parish now = new Parish();
    private final Parish[] images = {new Parish(), new Parish()};
    private final boolean[] kept = new boolean[IMAGES];
    private final byte[] text = new byte[MOST_BYTES];
    private final Foresight foresight = new Foresight(now);
    private final Paths paths = new Paths(now);
    private final Couples couples = new Couples(now);
    private final Guesses guesses = new Guesses(now);
    private final Teller teller = new Teller(text);
    private int textLength;
    private long above;
    private long below = 1;
    private int timesBad;
    private int timesNo;
    private int timesFull;

    public RasherCase() {
    }

    // ---- a parish

    public int parish() {
        int before = now.familyCount;
        now.empty();
        return before;
    }

    public int flitch(int kind, int c, int strength) {
        if (!within(kind, 0, KINDS - 1) || !isCell(c) || !within(strength, 1, MOST_STRENGTH)) {
            return bad();
        }
        if (now.flitchCount >= MOST_FLITCHES) {
            return full();
        }
        now.hang(kind, c, strength);
        return now.flitchCount - 1;
    }

    public int family(int kind, int side, int c, int will) {
        if (!within(kind, 0, KINDS - 1) || !within(side, 0, 1) || !isCell(c) || !within(will, 1, MOST_WILL)) {
            return bad();
        }
        if (now.familyCount >= MOST_FAMILIES) {
            return full();
        }
        now.settle(kind, side, c, will);
        return now.familyCount - 1;
    }

    public int type(int c) {
        if (!within(c, 0, 127)) {
            return bad();
        }
        if (textLength >= MOST_BYTES) {
            return full();
        }
        text[textLength] = (byte) c;
        textLength++;
        return textLength;
    }

    public int clear() {
        int before = textLength;
        textLength = 0;
        return before;
    }

    public int read() {
        int answer = teller.tell(textLength);
        if (answer >= 0) {
            now.become(teller.draft);
        }
        return answer;
    }

    // ---- days

    public int days(int n) {
        if (!within(n, 1, HORIZON)) {
            return bad();
        }
        now.remember();
        now.passDays(n);
        return now.lapsedCount();
    }

    public int goes(int i, int c) {
        if (!isFamily(i) || !isCell(c)) {
            return bad();
        }
        int before = now.familyCell[i];
        if (before == c) {
            return no();
        }
        now.remember();
        now.familyCell[i] = c;
        return before;
    }

    public int turnip(int i) {
        if (!isFamily(i)) {
            return bad();
        }
        if (now.hasLapsed(i)) {
            return no();
        }
        now.remember();
        now.familyWill[i] = Math.min(MOST_WILL, now.familyWill[i] + 3);
        return now.familyWill[i];
    }

    public int outs(int k) {
        if (!isFlitch(k)) {
            return bad();
        }
        now.remember();
        now.turn(k);
        return now.hungBit(k);
    }

    public int undo() {
        if (!now.goBack()) {
            return no();
        }
        return now.day;
    }

    public int of(int i, int what) {
        if (!isFamily(i) || !within(what, 0, 5)) {
            return bad();
        }
        return what == 5 ? now.takenToday(i) : now.familyFact(i, what);
    }

    public int about(int k, int what) {
        if (!isFlitch(k) || !within(what, 0, 3)) {
            return bad();
        }
        return now.flitchFact(k, what);
    }

    // ---- smelling

    public int smell(int c, int m) {
        if (!isCell(c) || !within(m, 0, HORIZON)) {
            return bad();
        }
        return now.scentAt(c, now.day + m, now.hung);
    }

    public int then(int i, int m) {
        if (!isFamily(i) || !within(m, 0, HORIZON)) {
            return bad();
        }
        return foresight.willAfter(i, m);
    }

    public int when(int i) {
        if (!isFamily(i)) {
            return bad();
        }
        return foresight.lapseWithin(i, now.familyCell[i], HORIZON);
    }

    public int right() {
        return foresight.rightAfter(0);
    }

    public int ends(int what) {
        if (!within(what, 0, 1)) {
            return bad();
        }
        int end = foresight.endOfCase();
        if (what == 0 || end == NONE) {
            return end;
        }
        return foresight.rightAfter(end);
    }

    public int way(int a, int b, int k) {
        if (!isCell(a) || !isCell(b) || k < WAY_STEPS || k == NONE) {
            return badApart();
        }
        paths.leadTo(b);
        if (k == WAY_SMELL) {
            return paths.smellFrom(a);
        }
        if (k == WAY_STEPS) {
            return paths.stepsFrom(a);
        }
        return k < paths.stepsFrom(a) ? paths.cellOfStep(a, k) : NOT_SO_MANY;
    }

    public int home(int i) {
        if (!isFamily(i)) {
            return bad();
        }
        return foresight.bestCell(i);
    }

    public int quiet(int m) {
        if (!within(m, 1, HORIZON)) {
            return bad();
        }
        return foresight.fewestOut(m);
    }

    public int marry(int i) {
        if (i != NONE && !isFamily(i)) {
            return badApart();
        }
        couples.pairAll();
        return i == NONE ? couples.mostPairs : couples.chosen[i];
    }

    // ---- how much will it was

    public int seen(int i, int m, int lapsed) {
        if (!isFamily(i) || !within(m, 0, HORIZON) || !within(lapsed, 0, 1)) {
            return bad();
        }
        return entered(now.sightings, i, m, lapsed, 0, 0);
    }

    public int wills(int i, int what) {
        if (!isFamily(i) || !within(what, 0, 2)) {
            return bad();
        }
        return foresight.fittingWills(i, what);
    }

    public int note(int k, int s, int f, int d, int x) {
        if (!isFlitch(k) || !within(s, 1, MOST_STRENGTH) || !within(f, 0, 8)
            || !within(d, 0, 99) || !within(x, 0, 60)) {
            return bad();
        }
        return entered(now.notes, k, s, f, d, x);
    }

    public int mark(int i, int x, int d, int y) {
        if (!isFamily(i) || !within(x, 0, 60) || !within(d, 0, 99) || !within(y, 0, 40)) {
            return bad();
        }
        return entered(now.marks, i, x, d, y, 0);
    }

    public int forget(int what) {
        if (!within(what, 0, 2)) {
            return bad();
        }
        Rows rows = what == 0 ? now.sightings : what == 1 ? now.notes : now.marks;
        int before = rows.size;
        rows.size = 0;
        return before;
    }

    public int is(int k) {
        return isFlitch(k) ? guesses.flitchKinds(k) : bad();
    }

    public int look(int k) {
        return isFlitch(k) ? guesses.nextLook(k) : bad();
    }

    public int kinds(int i) {
        return isFamily(i) ? guesses.familyKinds(i) : bad();
    }

    public int ask(int i) {
        return isFamily(i) ? guesses.nextAsk(i) : bad();
    }

    public int brothers(int a, int b) {
        if (!isFamily(a) || !isFamily(b)) {
            return bad();
        }
        if (now.familySide[a] == now.familySide[b] || now.hasLapsed(a) || now.hasLapsed(b)) {
            return no();
        }
        return restingPairs(now.familyWill[a] - now.takenToday(a), now.familyWill[b] - now.takenToday(b));
    }

    public int mornings(int i, int n, int c) {
        if (!isFamily(i) || !within(n, 0, MOST_MORNINGS) || !within(c, 0, 10)) {
            return bad();
        }
        long whole = 1;
        for (int t = 0; t < n; t++) {
            whole = whole * 10;
        }
        keepFraction(foresight.lapsingMornings(i, n, c), whole);
        return 1;
    }

    public int years(int seed, int n) {
        if (!within(seed, 0, 999999) || !within(n, 0, HORIZON)) {
            return bad();
        }
        return foresight.lapsedByYears(seed, n);
    }

    // ---- what there is

    public long part(int what) {
        if (!within(what, 0, 1)) {
            return bad();
        }
        return what == 0 ? above : below;
    }

    public int image(int i) {
        if (!within(i, 0, IMAGES - 1)) {
            return bad();
        }
        images[i].become(now);
        kept[i] = true;
        return 1;
    }

    public int from(int i) {
        if (!within(i, 0, IMAGES - 1)) {
            return bad();
        }
        if (!kept[i]) {
            return no();
        }
        now.become(images[i]);
        return 1;
    }

    public int status(int what) {
        switch (what) {
            case 0:
                return timesBad;
            case 1:
                return timesNo;
            case 2:
                return timesFull;
            default:
                bad();
                return -1;
        }
    }

    public int count(int what) {
        return within(what, 0, COUNTS - 1) ? countOf(what) : bad();
    }

    public long digest() {
        long h = 1667;
        for (int what = 0; what < COUNTS; what++) {
            h = 31 * h + countOf(what);
        }
        h = now.digestOn(h);
        h = 31 * h + above;
        return 31 * h + below;
    }

    // ---- helpers

    private static boolean within(int value, int low, int high) {
        return value >= low && value <= high;
    }

    private static boolean isCell(int c) {
        return within(c, 0, CELLS - 1);
    }

    private boolean isFamily(int i) {
        return within(i, 0, now.familyCount - 1);
    }

    private boolean isFlitch(int k) {
        return within(k, 0, now.flitchCount - 1);
    }

    private int bad() {
        timesBad++;
        return BAD;
    }

    private int badApart() {
        timesBad++;
        return APART;
    }

    private int no() {
        timesNo++;
        return NO;
    }

    private int full() {
        timesFull++;
        return FULL;
    }

    private int entered(Rows rows, int a, int b, int c, int d, int e) {
        if (rows.isFull()) {
            return full();
        }
        rows.enter(a, b, c, d, e);
        return rows.size;
    }

    /** Both eating never rests: holding alone is worth 20 against 12. */
    private static int restingPairs(int holdsA, int holdsB) {
        int bits = 0;
        if (holdsB <= 9) {
            bits |= 1 << 1;
        }
        if (holdsA <= 9) {
            bits |= 1 << 2;
        }
        if (holdsA >= 9 && holdsB >= 9) {
            bits |= 1 << 3;
        }
        return bits;
    }

    private void keepFraction(long some, long whole) {
        long a = whole;
        long b = some;
        for (int step = 0; step < 100 && b != 0; step++) {
            long left = a % b;
            a = b;
            b = left;
        }
        if (a > 0) {
            above = some / a;
            below = whole / a;
        }
    }

    private int countOf(int what) {
        switch (what) {
            case 0:
                return now.familyCount;
            case 1:
                return now.flitchCount;
            case 2:
                return Integer.bitCount(now.hung);
            case 3:
                return now.lapsedCount();
            case 4:
                return now.day;
            case 5:
                return now.willOfAll();
            case 6:
                return now.sightings.size;
            case 7:
                return now.notes.size;
            case 8:
                return now.marks.size;
            case 9:
                return now.past.size;
            default:
                return textLength;
        }
    }

    /** What the kinds do, each reckoned by the one that it is under. */
    private static final class Nature {

        private Nature() {
        }

        static int scent(int kind, int strength, int far, int day) {
            int plain = strength > 2 * far ? strength - 2 * far : 0;
            int smoked = plain >= 1 ? plain + 2 : 0;
            int dripping = day % 7 == 0 ? plain + 5 : plain;
            switch (kind) {
                case 1:
                    return smoked;
                case 2:
                    return dripping;
                case 3:
                    return 2 * smoked;
                case 4:
                    return (plain + 1) / 2;
                case 5:
                    return dripping - far > 1 ? dripping - far : 1;
                default:
                    return plain;
            }
        }

        static int loss(int kind, int scent, int day) {
            int plain = scent / 2;
            int grave = Math.max(0, plain - 1);
            int child = scent >= 1 ? plain + 2 : plain;
            switch (kind) {
                case 1:
                    return grave;
                case 2:
                    return child;
                case 3:
                    return day % 13 == 0 ? 6 : grave;
                case 4:
                    return day >= 20 ? plain + 1 : plain;
                case 5:
                    return Math.min(9, 2 * child);
                default:
                    return plain;
            }
        }
    }

    /** Rows of numbers of one width, so many at most, made once and used again. */
    private static final class Rows {

        final int width;
        final int limit;
        final int[] numbers;
        int size;

        Rows(int width, int limit) {
            this.width = width;
            this.limit = limit;
            this.numbers = new int[width * limit];
        }

        boolean isFull() {
            return size >= limit;
        }

        int at(int row, int column) {
            return numbers[row * width + column];
        }

        void put(int row, int column, int value) {
            numbers[row * width + column] = value;
        }

        /** What lies beyond the width is left out, so that one call serves rows of every width. */
        void enter(int a, int b, int c, int d, int e) {
            int row = size;
            put(row, 0, a);
            put(row, 1, b);
            put(row, 2, c);
            if (width > 3) {
                put(row, 3, d);
            }
            if (width > 4) {
                put(row, 4, e);
            }
            size++;
        }

        void dropFirst() {
            System.arraycopy(numbers, width, numbers, 0, width * (limit - 1));
            size--;
        }

        void become(Rows other) {
            System.arraycopy(other.numbers, 0, numbers, 0, numbers.length);
            size = other.size;
        }

        long digestOn(long before) {
            long h = before;
            for (int at = 0; at < size * width; at++) {
                h = 31 * h + numbers[at];
            }
            return h;
        }
    }

    /** All that an image keeps. A family has lapsed just when its will is 0, so that is not held twice. */
    private static final class Parish {

        private static final int PAST_WIDTH = 2 + 2 * MOST_FAMILIES;

        final int[] flitchKind = new int[MOST_FLITCHES];
        final int[] flitchCell = new int[MOST_FLITCHES];
        final int[] flitchStrength = new int[MOST_FLITCHES];
        final int[] familyKind = new int[MOST_FAMILIES];
        final int[] familySide = new int[MOST_FAMILIES];
        final int[] familyCell = new int[MOST_FAMILIES];
        final int[] familyWill = new int[MOST_FAMILIES];
        final Rows past = new Rows(PAST_WIDTH, MOST_PAST);
        final Rows sightings = new Rows(3, 5);
        final Rows notes = new Rows(5, 6);
        final Rows marks = new Rows(4, 6);
        int flitchCount;
        int familyCount;
        int hung;
        int day;

        Parish() {
        }

        void empty() {
            flitchCount = 0;
            familyCount = 0;
            hung = 0;
            day = 0;
            past.size = 0;
            sightings.size = 0;
            notes.size = 0;
            marks.size = 0;
        }

        void become(Parish other) {
            System.arraycopy(other.flitchKind, 0, flitchKind, 0, MOST_FLITCHES);
            System.arraycopy(other.flitchCell, 0, flitchCell, 0, MOST_FLITCHES);
            System.arraycopy(other.flitchStrength, 0, flitchStrength, 0, MOST_FLITCHES);
            System.arraycopy(other.familyKind, 0, familyKind, 0, MOST_FAMILIES);
            System.arraycopy(other.familySide, 0, familySide, 0, MOST_FAMILIES);
            System.arraycopy(other.familyCell, 0, familyCell, 0, MOST_FAMILIES);
            System.arraycopy(other.familyWill, 0, familyWill, 0, MOST_FAMILIES);
            past.become(other.past);
            sightings.become(other.sightings);
            notes.become(other.notes);
            marks.become(other.marks);
            flitchCount = other.flitchCount;
            familyCount = other.familyCount;
            hung = other.hung;
            day = other.day;
        }

        void hang(int kind, int cell, int strength) {
            int k = flitchCount;
            flitchKind[k] = kind;
            flitchCell[k] = cell;
            flitchStrength[k] = strength;
            hung |= 1 << k;
            flitchCount++;
            past.size = 0;
        }

        void settle(int kind, int side, int cell, int will) {
            int i = familyCount;
            familyKind[i] = kind;
            familySide[i] = side;
            familyCell[i] = cell;
            familyWill[i] = will;
            familyCount++;
            past.size = 0;
        }

        void turn(int k) {
            hung ^= 1 << k;
        }

        int hungBit(int k) {
            return hung >> k & 1;
        }

        boolean hasLapsed(int i) {
            return familyWill[i] < 1;
        }

        int lapsedCount() {
            return lapsedOf(familyWill);
        }

        int lapsedOf(int[] wills) {
            int lapsed = 0;
            for (int i = 0; i < familyCount; i++) {
                if (wills[i] < 1) {
                    lapsed++;
                }
            }
            return lapsed;
        }

        int willOfAll() {
            int sum = 0;
            for (int i = 0; i < familyCount; i++) {
                sum += familyWill[i];
            }
            return sum;
        }

        /** Which flitches are hung is told by bits, so that what is not so can be asked too. */
        int scentAt(int cell, int onDay, int hungBits) {
            int sum = 0;
            for (int k = 0; k < flitchCount; k++) {
                if ((hungBits >> k & 1) == 1) {
                    int rows = Math.abs(cell / WIDTH - flitchCell[k] / WIDTH);
                    int columns = Math.abs(cell % WIDTH - flitchCell[k] % WIDTH);
                    sum += Nature.scent(flitchKind[k], flitchStrength[k], rows + columns, onDay);
                }
            }
            return sum;
        }

        int takenToday(int i) {
            if (hasLapsed(i)) {
                return 0;
            }
            return Nature.loss(familyKind[i], scentAt(familyCell[i], day, hung), day);
        }

        void passDays(int n) {
            for (int t = 0; t < n && day < LAST_DAY; t++) {
                wearDown(familyCell, familyWill, day);
                day++;
            }
        }

        /** Works on the rows it is given, so that days that are only thought of go by the same rule. */
        void wearDown(int[] cells, int[] wills, int onDay) {
            for (int i = 0; i < familyCount; i++) {
                if (wills[i] >= 1) {
                    int loss = Nature.loss(familyKind[i], scentAt(cells[i], onDay, hung), onDay);
                    wills[i] = Math.max(0, wills[i] - loss);
                }
            }
        }

        void remember() {
            if (past.isFull()) {
                past.dropFirst();
            }
            int row = past.size;
            past.put(row, 0, day);
            past.put(row, 1, hung);
            for (int i = 0; i < MOST_FAMILIES; i++) {
                past.put(row, 2 + i, familyWill[i]);
                past.put(row, 2 + MOST_FAMILIES + i, familyCell[i]);
            }
            past.size++;
        }

        boolean goBack() {
            if (past.size < 1) {
                return false;
            }
            past.size--;
            int row = past.size;
            day = past.at(row, 0);
            hung = past.at(row, 1);
            for (int i = 0; i < MOST_FAMILIES; i++) {
                familyWill[i] = past.at(row, 2 + i);
                familyCell[i] = past.at(row, 2 + MOST_FAMILIES + i);
            }
            return true;
        }

        int familyFact(int i, int what) {
            switch (what) {
                case 0:
                    return familyKind[i];
                case 1:
                    return familySide[i];
                case 2:
                    return familyCell[i];
                case 3:
                    return familyWill[i];
                default:
                    return hasLapsed(i) ? 1 : 0;
            }
        }

        int flitchFact(int k, int what) {
            switch (what) {
                case 0:
                    return flitchKind[k];
                case 1:
                    return flitchCell[k];
                case 2:
                    return flitchStrength[k];
                default:
                    return hungBit(k);
            }
        }

        long digestOn(long before) {
            long h = before;
            for (int k = 0; k < flitchCount; k++) {
                for (int what = 0; what < 4; what++) {
                    h = 31 * h + flitchFact(k, what);
                }
            }
            for (int i = 0; i < familyCount; i++) {
                for (int what = 0; what < 5; what++) {
                    h = 31 * h + familyFact(i, what);
                }
            }
            return marks.digestOn(notes.digestOn(sightings.digestOn(h)));
        }
    }

    /**
     * What would be, changing nothing. What a day takes does not hang on the will that is left, so a row of
     * what has been taken by each day answers for every will at once: one has lapsed when as much is taken.
     */
    private static final class Foresight {

        private final Parish parish;
        private final int[] taken = new int[HORIZON + 1];
        private final int[] lapses = new int[MOST_FAMILIES];
        private final int[] wills = new int[MOST_FAMILIES];
        private final int[] cells = new int[MOST_FAMILIES];
        private final int[] smelling = new int[MOST_MORNINGS];
        private final int[] windy = new int[MOST_MORNINGS];

        Foresight(Parish parish) {
            this.parish = parish;
        }

        /** A cell has but two smells, one on days that 7 divides, so they are not reckoned anew for each day. */
        private void reckon(int kind, int cell, int hungBits, int days) {
            int dripping = parish.scentAt(cell, 7, hungBits);
            int dry = parish.scentAt(cell, 1, hungBits);
            taken[0] = 0;
            for (int t = 0; t < days && t < HORIZON; t++) {
                int onDay = parish.day + t;
                taken[t + 1] = taken[t] + Nature.loss(kind, onDay % 7 == 0 ? dripping : dry, onDay);
            }
        }

        int willAfter(int i, int m) {
            reckon(parish.familyKind[i], parish.familyCell[i], parish.hung, m);
            return Math.max(0, parish.familyWill[i] - taken[m]);
        }

        int lapseWithin(int i, int cell, int days) {
            reckon(parish.familyKind[i], cell, parish.hung, days);
            return firstLapse(parish.familyWill[i], days);
        }

        private int firstLapse(int will, int days) {
            for (int t = 0; t <= days && t <= HORIZON; t++) {
                if (taken[t] >= will) {
                    return t;
                }
            }
            return NONE;
        }

        private void reckonLapses(int days) {
            for (int i = 0; i < parish.familyCount; i++) {
                reckon(parish.familyKind[i], parish.familyCell[i], parish.hung, days);
                lapses[i] = firstLapse(parish.familyWill[i], days);
            }
        }

        /** Bits of the sides that have a family that holds still. */
        private int holdingSides(int t) {
            int sides = 0;
            for (int i = 0; i < parish.familyCount; i++) {
                if (lapses[i] == NONE || lapses[i] > t) {
                    sides |= 1 << parish.familySide[i];
                }
            }
            return sides;
        }

        int rightAfter(int t) {
            reckonLapses(t);
            int sides = holdingSides(t);
            return sides == 1 ? 0 : sides == 2 ? 1 : NONE;
        }

        int endOfCase() {
            reckonLapses(HORIZON);
            for (int t = 0; t <= HORIZON; t++) {
                if (holdingSides(t) != 3) {
                    return t;
                }
            }
            return NONE;
        }

        int bestCell(int i) {
            int best = 0;
            int latest = -1;
            for (int cell = 0; cell < CELLS; cell++) {
                int lapse = lapseWithin(i, cell, HORIZON);
                int late = lapse == NONE ? HORIZON + 1 : lapse;
                if (late > latest) {
                    latest = late;
                    best = cell;
                }
            }
            return best;
        }

        int fewestOut(int m) {
            int best = NONE;
            int all = (1 << parish.flitchCount) - 1;
            for (int out = 0; out <= all; out++) {
                boolean fewer = best == NONE || Integer.bitCount(out) < Integer.bitCount(best);
                if (fewer && allHold(all & ~out, m)) {
                    best = out;
                }
            }
            return best;
        }

        private boolean allHold(int hungBits, int m) {
            for (int i = 0; i < parish.familyCount; i++) {
                if (!parish.hasLapsed(i)) {
                    reckon(parish.familyKind[i], parish.familyCell[i], hungBits, m);
                    if (taken[m] >= parish.familyWill[i]) {
                        return false;
                    }
                }
            }
            return true;
        }

        int fittingWills(int i, int what) {
            reckon(parish.familyKind[i], parish.familyCell[i], parish.hung, HORIZON);
            int fitting = 0;
            int least = NONE;
            int greatest = NONE;
            for (int will = 1; will <= MOST_WILL; will++) {
                if (fits(i, will)) {
                    fitting++;
                    least = least == NONE ? will : least;
                    greatest = will;
                }
            }
            return what == 0 ? fitting : what == 1 ? least : greatest;
        }

        private boolean fits(int i, int will) {
            Rows rows = parish.sightings;
            for (int row = 0; row < rows.size; row++) {
                if (rows.at(row, 0) == i) {
                    boolean lapsed = taken[rows.at(row, 1)] >= will;
                    if (lapsed != (rows.at(row, 2) == 1)) {
                        return false;
                    }
                }
            }
            return true;
        }

        /** Of 10 to the n ways that the mornings can turn out, those behind which the family has lapsed. */
        long lapsingMornings(int i, int n, int c) {
            int kind = parish.familyKind[i];
            for (int t = 0; t < n; t++) {
                int onDay = parish.day + t;
                smelling[t] = Nature.loss(kind, parish.scentAt(parish.familyCell[i], onDay, parish.hung), onDay);
                windy[t] = Nature.loss(kind, 0, onDay);
            }
            long sum = 0;
            for (int winds = 0; winds < 1 << n; winds++) {
                long ways = 1;
                int loss = 0;
                for (int t = 0; t < n; t++) {
                    boolean wind = (winds >> t & 1) == 1;
                    ways = ways * (wind ? c : 10 - c);
                    loss += wind ? windy[t] : smelling[t];
                }
                if (loss >= parish.familyWill[i]) {
                    sum += ways;
                }
            }
            return sum;
        }

        int lapsedByYears(int seed, int n) {
            System.arraycopy(parish.familyWill, 0, wills, 0, MOST_FAMILIES);
            System.arraycopy(parish.familyCell, 0, cells, 0, MOST_FAMILIES);
            long x = seed;
            for (int t = 0; t < n; t++) {
                x = (x * 1103515245L + 12345L) % 2147483648L;
                int who = (int) (x / 65536L % 7L);
                if (who < parish.familyCount) {
                    cells[who] = (int) (x / 1048576L % 25L);
                }
                parish.wearDown(cells, wills, parish.day + t);
            }
            return parish.lapsedOf(wills);
        }
    }

    /** Ways home. Smell and steps are one number, so that the lesser of two is also the better way. */
    private static final class Paths {

        /** More than any way has steps. */
        private static final int STEPS = 64;
        private static final int UNKNOWN = 1000000000;

        private final Parish parish;
        private final int[] entering = new int[CELLS];
        private final int[] cost = new int[CELLS];
        private int goal;

        Paths(Parish parish) {
            this.parish = parish;
        }

        void leadTo(int b) {
            goal = b;
            for (int c = 0; c < CELLS; c++) {
                entering[c] = parish.scentAt(c, parish.day, parish.hung) * STEPS + 1;
                cost[c] = UNKNOWN;
            }
            cost[b] = 0;
            boolean better = true;
            for (int round = 0; round < CELLS && better; round++) {
                better = false;
                for (int c = 0; c < CELLS; c++) {
                    better = improve(c) || better;
                }
            }
        }

        private boolean improve(int c) {
            boolean better = false;
            for (int turn = 0; turn < 4; turn++) {
                int beside = beside(c, turn);
                if (beside != NONE && cost[beside] + entering[beside] < cost[c]) {
                    cost[c] = cost[beside] + entering[beside];
                    better = true;
                }
            }
            return better;
        }

        /** The cells beside come in rising order, so the first that will do is the first way's. */
        private static int beside(int c, int turn) {
            switch (turn) {
                case 0:
                    return c >= WIDTH ? c - WIDTH : NONE;
                case 1:
                    return c % WIDTH > 0 ? c - 1 : NONE;
                case 2:
                    return c % WIDTH < WIDTH - 1 ? c + 1 : NONE;
                default:
                    return c + WIDTH < CELLS ? c + WIDTH : NONE;
            }
        }

        int smellFrom(int a) {
            return cost[a] / STEPS;
        }

        int stepsFrom(int a) {
            return cost[a] % STEPS;
        }

        int cellOfStep(int a, int k) {
            int at = a;
            for (int step = 0; step <= k && step < CELLS && at != goal; step++) {
                at = stepFrom(at);
            }
            return at;
        }

        private int stepFrom(int c) {
            for (int turn = 0; turn < 4; turn++) {
                int beside = beside(c, turn);
                if (beside != NONE && cost[beside] + entering[beside] == cost[c]) {
                    return beside;
                }
            }
            return c;
        }
    }

    /** Marriages across. Ways are tried in the order that the first one is chosen by. */
    private static final class Couples {

        private final Parish parish;
        private final int[] partner = new int[MOST_FAMILIES];
        final int[] chosen = new int[MOST_FAMILIES];
        int mostPairs;

        Couples(Parish parish) {
            this.parish = parish;
        }

        void pairAll() {
            for (int i = 0; i < MOST_FAMILIES; i++) {
                partner[i] = NONE;
            }
            mostPairs = -1;
            pairFrom(this, 0, 0);
        }

        /** Static, for LANGUAGE.md lets only such a method call itself; i is the depth, too. */
        private static void pairFrom(Couples all, int i, int pairs) {
            if (i >= all.parish.familyCount || i >= MOST_FAMILIES) {
                all.keepIfMore(pairs);
                return;
            }
            pairFrom(all, i + 1, pairs);
            if (all.partner[i] != NONE) {
                return;
            }
            for (int j = i + 1; j < all.parish.familyCount && j < MOST_FAMILIES; j++) {
                if (all.partner[j] == NONE && all.mayMarry(i, j)) {
                    all.partner[i] = j;
                    all.partner[j] = i;
                    pairFrom(all, i + 1, pairs + 1);
                    all.partner[i] = NONE;
                    all.partner[j] = NONE;
                }
            }
        }

        private void keepIfMore(int pairs) {
            if (pairs > mostPairs) {
                mostPairs = pairs;
                System.arraycopy(partner, 0, chosen, 0, MOST_FAMILIES);
            }
        }

        private boolean mayMarry(int i, int j) {
            return parish.familySide[i] != parish.familySide[j]
                && Math.abs(parish.familyWill[i] - parish.familyWill[j]) <= 5;
        }
    }

    /** What kinds fit what was noted, and what to try next so that the fewest would be left at worst. */
    private static final class Guesses {

        private final Parish parish;
        private final int[] outcome = new int[KINDS];

        Guesses(Parish parish) {
            this.parish = parish;
        }

        int flitchKinds(int k) {
            int bits = 0;
            for (int kind = 0; kind < KINDS; kind++) {
                if (fitsNotes(k, kind)) {
                    bits |= 1 << kind;
                }
            }
            return bits;
        }

        private boolean fitsNotes(int k, int kind) {
            Rows rows = parish.notes;
            for (int row = 0; row < rows.size; row++) {
                if (rows.at(row, 0) == k) {
                    int scent = Nature.scent(kind, rows.at(row, 1), rows.at(row, 2), rows.at(row, 3));
                    if (scent != rows.at(row, 4)) {
                        return false;
                    }
                }
            }
            return true;
        }

        int familyKinds(int i) {
            int bits = 0;
            for (int kind = 0; kind < KINDS; kind++) {
                if (fitsMarks(i, kind)) {
                    bits |= 1 << kind;
                }
            }
            return bits;
        }

        private boolean fitsMarks(int i, int kind) {
            Rows rows = parish.marks;
            for (int row = 0; row < rows.size; row++) {
                if (rows.at(row, 0) == i) {
                    int loss = Nature.loss(kind, rows.at(row, 1), rows.at(row, 2));
                    if (loss != rows.at(row, 3)) {
                        return false;
                    }
                }
            }
            return true;
        }

        int nextLook(int k) {
            int bits = flitchKinds(k);
            int best = NONE;
            int fewest = KINDS + 1;
            for (int far = 0; far <= 8 && bits != 0; far++) {
                for (int day = 0; day <= 1; day++) {
                    for (int kind = 0; kind < KINDS; kind++) {
                        outcome[kind] = Nature.scent(kind, parish.flitchStrength[k], far, day);
                    }
                    int alike = mostAlike(bits);
                    if (alike < fewest) {
                        fewest = alike;
                        best = 10 * far + day;
                    }
                }
            }
            return best;
        }

        int nextAsk(int i) {
            int bits = familyKinds(i);
            int best = NONE;
            int fewest = KINDS + 1;
            for (int day = 0; day <= 1 && bits != 0; day++) {
                for (int scent = 0; scent <= 60; scent++) {
                    for (int kind = 0; kind < KINDS; kind++) {
                        outcome[kind] = Nature.loss(kind, scent, day);
                    }
                    int alike = mostAlike(bits);
                    if (alike < fewest) {
                        fewest = alike;
                        best = 100 * day + scent;
                    }
                }
            }
            return best;
        }

        private int mostAlike(int bits) {
            int most = 0;
            for (int a = 0; a < KINDS; a++) {
                int alike = 0;
                for (int b = 0; b < KINDS; b++) {
                    boolean both = (bits >> a & 1) == 1 && (bits >> b & 1) == 1;
                    if (both && outcome[a] == outcome[b]) {
                        alike++;
                    }
                }
                most = Math.max(most, alike);
            }
            return most;
        }
    }

    /** Reads a parish into a draft, so that a fault leaves the parish that is there alone. */
    private static final class Teller {

        private static final int END = 0;
        private static final int SEMICOLON = 1;
        private static final int NUMBER = 2;
        private static final int WORD = 3;
        private static final int WRONG = 4;

        private static final int NO_WORD = 0;
        private static final int PARISH = 1;
        private static final int FLITCH = 2;
        private static final int FAMILY = 3;
        private static final int OUT = 4;
        private static final int DAYS = 5;

        final Parish draft = new Parish();
        private final byte[] bytes;
        private final int[] numbers = new int[4];
        private int length;
        private int place;
        private int start;
        private int token;
        private int value;

        Teller(byte[] bytes) {
            this.bytes = bytes;
        }

        /** How many items, or -10 less the place of the first token that can not stand where it does. */
        int tell(int textLength) {
            draft.empty();
            length = Math.min(textLength, bytes.length);
            place = 0;
            advance();
            if (wordHere() != PARISH || !endsItem()) {
                return APART - start;
            }
            int items = 1;
            for (int round = 0; round < MOST_BYTES; round++) {
                advance();
                if (token == END) {
                    break;
                }
                int word = wordHere();
                if (!takesNumbers(word) || !endsItem()) {
                    return APART - start;
                }
                carryOut(word);
                items++;
            }
            return items;
        }

        /** Where there is no room the word itself is the fault, so nothing behind it may be looked at. */
        private boolean takesNumbers(int word) {
            switch (word) {
                case FLITCH:
                    return draft.flitchCount < MOST_FLITCHES && takesNumber(0, 0, KINDS - 1)
                        && takesNumber(1, 0, CELLS - 1) && takesNumber(2, 1, MOST_STRENGTH);
                case FAMILY:
                    return draft.familyCount < MOST_FAMILIES && takesNumber(0, 0, KINDS - 1)
                        && takesNumber(1, 0, 1) && takesNumber(2, 0, CELLS - 1) && takesNumber(3, 1, MOST_WILL);
                case OUT:
                    return takesNumber(0, 0, draft.flitchCount - 1);
                case DAYS:
                    return takesNumber(0, 1, 99);
                default:
                    return false;
            }
        }

        private void carryOut(int word) {
            switch (word) {
                case FLITCH:
                    draft.hang(numbers[0], numbers[1], numbers[2]);
                    break;
                case FAMILY:
                    draft.settle(numbers[0], numbers[1], numbers[2], numbers[3]);
                    break;
                case OUT:
                    draft.turn(numbers[0]);
                    break;
                default:
                    draft.passDays(numbers[0]);
                    break;
            }
        }

        private boolean takesNumber(int slot, int low, int high) {
            advance();
            numbers[slot] = value;
            return token == NUMBER && within(value, low, high);
        }

        private boolean endsItem() {
            advance();
            return token == SEMICOLON;
        }

        private void advance() {
            while (place < length && bytes[place] == ' ') {
                place++;
            }
            start = place;
            value = 0;
            if (place >= length) {
                token = END;
            } else if (isLetter(bytes[place])) {
                takeLetters();
            } else if (isFigure(bytes[place])) {
                takeFigures();
            } else {
                token = bytes[place] == ';' ? SEMICOLON : WRONG;
                place++;
            }
        }

        private void takeLetters() {
            while (place < length && isLetter(bytes[place])) {
                place++;
            }
            token = WORD;
        }

        private int wordHere() {
            if (token != WORD) {
                return NO_WORD;
            }
            if (wordIs("parish")) {
                return PARISH;
            }
            if (wordIs("flitch")) {
                return FLITCH;
            }
            if (wordIs("family")) {
                return FAMILY;
            }
            if (wordIs("out")) {
                return OUT;
            }
            return wordIs("days") ? DAYS : NO_WORD;
        }

        private boolean wordIs(String word) {
            if (place - start != word.length()) {
                return false;
            }
            for (int at = 0; at < word.length(); at++) {
                if (bytes[start + at] != word.charAt(at)) {
                    return false;
                }
            }
            return true;
        }

        private void takeFigures() {
            while (place < length && isFigure(bytes[place])) {
                value = (10 * value + bytes[place] - '0') % 1000;
                place++;
            }
            token = place - start <= 2 ? NUMBER : WRONG;
        }

        private static boolean isLetter(byte b) {
            return b >= 'a' && b <= 'z';
        }

        private static boolean isFigure(byte b) {
            return b >= '0' && b <= '9';
        }
    }
}
