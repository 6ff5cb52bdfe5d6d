/** Raking tables, as ../shared/DOC.md promises them: counts, margins, fits in fractions, controlled rounding. */
public final class RakeTables {
    public static final int NONE = -1, BAD = -2, STATE = -3, FULL = -4, FINE = -6;
    public static final long NO = Long.MIN_VALUE;

    private static final int NOTHING = -11, CAST = -12, PLACE = -13, SIZE = -14;
    private static final int NOT_ANY = -5, CUT_SHORT = 100, FAULTY = -10;
    private static final int ROWS = 0, COLUMNS = 1, MARKS = 2, WAYS = 3;
    private static final int SIDE = 3, CELLS = 9;
    private static final int MOST_COUNT = 20, MOST_MARK = 2, MOST_MARGIN = 60, MOST_ROUNDS = 20;
    private static final int MOST_SEEN = 5, MOST_EVENTS = 8, MOST_BOOKED = 8;
    private static final int MOST_SIGNS = 100, MOST_CLAUSES = 12, MOST_SIGN = 127;
    private static final int MOST_ABOVE_OR_BELOW = 999999;
    private static final int ODDS_COUNTS = 10;
    private static final long MOST_LONG = 9223372036854775807L;

    private final Picture now = new Picture();
    private final Picture taken = new Picture();
    private boolean isTaken;
    private final Script script = new Script();
    private final Tapes tapes = new Tapes();
    private final Rounding rounding = new Rounding();

    // Made once and used by every call: a run has little room for new objects.
    private final Setting trial = new Setting();
    private final Table trialTable = new Table();
    private final Table behind = new Table();
    private final Fraction answer = new Fraction();
    private final Fraction lineGap = new Fraction();
    private final Fraction widest = new Fraction();
    private final Quotient quotient = new Quotient();

    public RakeTables() {
    }

    // ---- counts, marks, margins

    public int size(int rows, int columns) {
        if (rows < 1 || rows > SIDE || columns < 1 || columns > SIDE) return BAD;
        now.become(rows, columns);
        return now.setting.cells();
    }

    public int tell(int i, int j, int n) {
        Setting setting = now.setting;
        if (!setting.hasCell(i, j)) return NONE;
        if (n < 0 || n > MOST_COUNT) return BAD;
        int old = setting.counts[place(i, j)];
        setting.counts[place(i, j)] = n;
        now.table.takeCounts(setting);
        return old;
    }

    public int mark(int i, int j, int m) {
        if (!now.setting.hasCell(i, j)) return NONE;
        if (m < 0 || m > MOST_MARK) return BAD;
        int old = now.setting.marks[place(i, j)];
        now.setting.marks[place(i, j)] = m;
        return old;
    }

    public int margin(int way, int k, int v) {
        if (!now.setting.hasLine(way, k)) return NONE;
        if (v < 0 || v > MOST_MARGIN) return BAD;
        int old = now.setting.margins[place(way, k)];
        now.setting.margins[place(way, k)] = v;
        return old;
    }

    public int three(boolean isThree) {
        int old = oneIf(now.setting.isThree);
        now.setting.isThree = isThree;
        return old;
    }

    public int of(int i, int j, int what) {
        if (!now.setting.hasCell(i, j)) return NONE;
        switch (what) {
            case 0: return now.setting.counts[place(i, j)];
            case 1: return now.setting.marks[place(i, j)];
            default: return NONE;
        }
    }

    public int marginOf(int way, int k) {
        if (!now.setting.hasLine(way, k)) return NONE;
        return now.setting.margins[place(way, k)];
    }

    public int feed(int sign) {
        if (sign < 0 || sign > MOST_SIGN) return BAD;
        return script.append(sign);
    }

    public int read() {
        int fault = script.fault();
        int done = fault >= 0 ? FAULTY - fault : doClauses();
        script.length = 0;
        return done;
    }

    private int doClauses() {
        int done = 0;
        int start = 0;
        for (int clause = 0; clause < MOST_CLAUSES && start < script.length; clause++) {
            int end = script.clauseEnd(start);
            if (end < 0) return done;
            if (isClauseDone(start, end)) done++;
            start = end + 1;
        }
        return done;
    }

    private boolean isClauseDone(int start, int end) {
        int first = script.digit(start + 1);
        int second = script.digit(start + 2);
        int last = script.number(start + 3, end);
        switch (script.sign(start)) {
            case 's': return size(first, second) >= 0;
            case 'n': return tell(first, second, last) >= 0;
            case 'k': return mark(first, second, last) >= 0;
            case 'm': return margin(first, second, last) >= 0;
            case 'x': return three(!now.setting.isThree) >= 0;
            default: return false;
        }
    }

    // ---- fits, rounds

    public int begin() {
        int had = now.table.rounds;
        now.table.takeCounts(now.setting);
        return had;
    }

    public int fit(int way) {
        if (way < 0 || way >= WAYS) return NONE;
        if (way == MARKS && !now.setting.isThree) return STATE;
        behind.copyFrom(now.table);
        if (!behind.isFitted(now.setting, way)) return FINE;
        int changed = behind.countOtherwise(now.setting, now.table);
        now.table.copyFrom(behind);
        return changed;
    }

    public int rounds(int n) {
        if (n < 0 || n > MOST_ROUNDS) return BAD;
        int done = 0;
        while (done < n && isRoundDone(now.setting, now.table)) done++;
        return done;
    }

    /** A round is tried on a copy, because one that isn't there must leave the table as it was. */
    private boolean isRoundDone(Setting setting, Table table) {
        behind.copyFrom(table);
        if (!behind.isFitted(setting, ROWS) || !behind.isFitted(setting, COLUMNS)) return false;
        if (setting.isThree && !behind.isFitted(setting, MARKS)) return false;
        if (behind.countOtherwise(setting, table) == 0) return false;
        table.copyFrom(behind);
        table.rounds++;
        return true;
    }

    public long cell(int i, int j, int part) {
        if (!now.setting.hasCell(i, j)) return NO;
        switch (part) {
            case 0: return now.table.above[place(i, j)];
            case 1: return now.table.below[place(i, j)];
            default: return NO;
        }
    }

    public long sum(int way, int k, int part) {
        if (!now.setting.hasLine(way, k)) return NO;
        if (!now.table.isSummed(now.setting, way, k, answer)) return NO;
        return answer.partOf(part);
    }

    public long gap(int way, int k, int part) {
        if (!now.setting.hasLine(way, k)) return NO;
        if (!isGapFound(way, k)) return NO;
        return lineGap.partOf(part);
    }

    private boolean isGapFound(int way, int k) {
        if (!now.table.isSummed(now.setting, way, k, lineGap)) return false;
        long due = now.setting.margins[place(way, k)] * lineGap.below;
        lineGap.become(Math.abs(lineGap.above - due), lineGap.below);
        return true;
    }

    public int farthest() {
        return seekWidest();
    }

    /** Leaves the greatest gap in the field widest, for those who ask whether it is 0. */
    private int seekWidest() {
        int found = NONE;
        int ways = now.setting.isThree ? WAYS : MARKS;
        for (int way = 0; way < ways; way++) {
            for (int k = 0; k < now.setting.lines(way); k++) {
                if (!isGapFound(way, k)) return FINE;
                if (found == NONE || lineGap.isMoreThan(widest)) {
                    widest.become(lineGap.above, lineGap.below);
                    found = 10 * way + k;
                }
            }
        }
        return found;
    }

    public int told(int what) {
        switch (what) {
            case 0: return now.setting.rows;
            case 1: return now.setting.columns;
            case 2: return oneIf(now.setting.isThree);
            case 3: return now.table.rounds;
            case 4: return seekWidest() == FINE ? FINE : oneIf(widest.above == 0);
            case 5: return oneIf(now.setting.isPossible());
            case 6: return now.setting.forbids();
            case 7: return now.setting.allCounts();
            default: return NONE;
        }
    }

    // ---- whole numbers, ratios, orders

    public int rounded(int i, int j) {
        if (!now.setting.hasCell(i, j)) return NONE;
        if (!rounding.isFound(now.setting, now.table)) return FINE;
        return rounding.values[place(i, j)];
    }

    public int together(int way, int k) {
        if (!now.setting.hasLine(way, k)) return NONE;
        if (!rounding.isFound(now.setting, now.table)) return FINE;
        int all = 0;
        for (int i = 0; i < now.setting.rows; i++) {
            for (int j = 0; j < now.setting.columns; j++) {
                if (now.setting.lineOf(way, i, j) == k) all += rounding.values[place(i, j)];
            }
        }
        return all;
    }

    public long cross(int i, int k, int j, int l, int part) {
        if (!now.setting.hasCell(i, j) || !now.setting.hasCell(k, l)) return NO;
        if (part < 0 || part > 1) return NO;
        quotient.clear();
        quotient.times(now.table, place(i, j));
        quotient.by(now.table, place(i, l));
        quotient.times(now.table, place(k, l));
        quotient.by(now.table, place(k, j));
        return quotient.partOf(part);
    }

    public long orders() {
        long orders = 1;
        int standing = 0;
        for (int i = 0; i < now.setting.rows; i++) {
            for (int j = 0; j < now.setting.columns; j++) {
                for (int alike = 1; alike <= now.setting.counts[place(i, j)]; alike++) {
                    standing++;
                    orders = Fraction.timesBy(orders, standing, alike);
                    if (orders == NO) return NO;
                }
            }
        }
        return orders;
    }

    public int rank(int k) {
        for (int i = 0; i < now.setting.rows; i++) {
            for (int j = 0; j < now.setting.columns; j++) {
                if (countAhead(place(i, j)) == k) return 10 * i + j;
            }
        }
        return NONE;
    }

    private int countAhead(int place) {
        int ahead = 0;
        for (int i = 0; i < now.setting.rows; i++) {
            for (int j = 0; j < now.setting.columns; j++) {
                int other = place(i, j);
                int order = now.table.compare(other, place);
                if (order > 0 || order == 0 && other < place) ahead++;
            }
        }
        return ahead;
    }

    // ---- seen, odds

    public int see(int i, int j, int n) {
        return noteCell(now.seen, i, j, n);
    }

    private int noteCell(Notes notes, int i, int j, int n) {
        if (i == -1) return notes.empty();
        if (!now.setting.hasCell(i, j)) return NONE;
        if (n < 0 || n > MOST_MARGIN) return BAD;
        return notes.append(place(i, j), n);
    }

    public int fitting(int i, int j, int what) {
        if (!now.setting.hasCell(i, j) || what < 0 || what > 1) return NONE;
        int many = 0;
        int least = NOT_ANY;
        for (int n = 0; n <= MOST_COUNT; n++) {
            if (isRoundedBehind(place(i, j), n) && firstOtherwise(now.seen) == NOT_ANY) {
                if (many == 0) least = n;
                many++;
            }
        }
        return what == 0 ? many : least;
    }

    /** Leaves in rounding what would be there, were the cell's count n and one round done. */
    private boolean isRoundedBehind(int place, int n) {
        trial.copyFrom(now.setting);
        trial.counts[place] = n;
        trialTable.takeCounts(trial);
        isRoundDone(trial, trialTable);
        return rounding.isFound(trial, trialTable);
    }

    private int firstOtherwise(Notes notes) {
        for (int row = 0; row < notes.size; row++) {
            if (rounding.values[notes.places[row]] != notes.numbers[row]) return row;
        }
        return NOT_ANY;
    }

    public long odds(int i, int j, int part) {
        if (!now.setting.hasCell(i, j) || part < 0 || part > 1) return NO;
        int reached = 0;
        for (int n = 0; n < ODDS_COUNTS; n++) {
            if (isRoundedBehind(place(i, j), n) && rounding.values[place(i, j)] >= n) reached++;
        }
        answer.become(reached, ODDS_COUNTS);
        return answer.partOf(part);
    }

    public long mean(int part) {
        answer.become(now.setting.allCounts(), now.setting.cells());
        return answer.partOf(part);
    }

    // ---- events, books

    public int event(int what, int n) {
        if (what == -1) return now.events.empty();
        switch (what) {
            case 0:
                if (n < 0 || !now.setting.hasCell(n / 10, n % 10)) return NONE;
                break;
            case 1:
                if (!now.setting.hasLine(ROWS, n)) return NONE;
                break;
            case 2:
                if (!now.setting.hasLine(COLUMNS, n)) return NONE;
                break;
            case 3:
                if (n < 0 || n > MOST_MARGIN) return BAD;
                break;
            default:
                return NONE;
        }
        return now.events.append(what, n);
    }

    public long after(int what) {
        trial.copyFrom(now.setting);
        for (int row = 0; row < now.events.size; row++) {
            trial.happen(now.events.places[row], now.events.numbers[row]);
        }
        switch (what) {
            case 0: return oneIf(trial.isPossible());
            case 1: return trial.forbids();
            case 2: return trial.allMargins(ROWS) - trial.allMargins(COLUMNS);
            default: return NO;
        }
    }

    public int book(int i, int j, int n) {
        return noteCell(now.book, i, j, n);
    }

    public int looked() {
        if (!rounding.isFound(now.setting, now.table)) return FINE;
        return firstOtherwise(now.book);
    }

    // ---- judging, the image, tapes

    public int judge(int tape, int i) {
        if (!tapes.hasTape(tape)) return NONE;
        if (!rounding.isFound(now.setting, now.table)) return FINE;
        if (!tapes.holds(tape)) return CUT_SHORT;
        if (!tapes.isOfInts(tape)) return CAST;
        int looked = 0;
        for (int row = 0; row < now.setting.rows; row++) {
            for (int column = 0; column < now.setting.columns; column++) {
                // Asked this way round, because i + looked may be beyond every int.
                if (i < 0 || i >= tapes.lengthOf(tape) - looked) return CUT_SHORT + looked;
                if (tapes.itemAt(tape, i + looked) != rounding.values[place(row, column)]) return looked;
                looked++;
            }
        }
        return NOT_ANY;
    }

    public int image() {
        taken.copyFrom(now);
        isTaken = true;
        return now.setting.cells();
    }

    public int undo() {
        if (!isTaken) return STATE;
        now.copyFrom(taken);
        return now.setting.cells();
    }

    public int count(int what) {
        switch (what) {
            case 0: return now.seen.size;
            case 1: return now.events.size;
            case 2: return now.book.size;
            case 3: return script.length;
            default: return BAD;
        }
    }

    public int tape(int tape, int sort, int n) {
        if (!tapes.hasTape(tape)) return NONE;
        if (sort < Tapes.EMPTY || sort > Tapes.BOOLEANS) return BAD;
        if (sort == Tapes.EMPTY) return tapes.become(tape, sort, 0);
        if (n > Tapes.MOST_ITEMS) return BAD;
        if (n < 0) return SIZE;
        return tapes.become(tape, sort, n);
    }

    public int item(int tape, int i, long v) {
        if (!tapes.hasTape(tape)) return NONE;
        if (!tapes.holds(tape)) return NOTHING;
        if (!tapes.hasItem(tape, i)) return PLACE;
        return tapes.put(tape, i, v);
    }

    public long peek(int tape, int i) {
        if (!tapes.hasTape(tape) || !tapes.hasItem(tape, i)) return NO;
        return tapes.itemAt(tape, i);
    }

    public int shift(int tape, int i, int other, int j, int n) {
        if (!tapes.hasTape(tape) || !tapes.hasTape(other)) return NONE;
        if (!tapes.holds(tape) || !tapes.holds(other)) return NOTHING;
        if (!tapes.isAlike(tape, other)) return CAST;
        if (!tapes.hasItems(tape, i, n) || !tapes.hasItems(other, j, n)) return PLACE;
        return tapes.move(tape, i, other, j, n);
    }

    // ---- small things that all use

    /** Cells, and lines by way, lie three to a row in arrays of nine, whatever the size is. */
    private static int place(int i, int j) {
        return SIDE * i + j;
    }

    private static int oneIf(boolean isSo) {
        return isSo ? 1 : 0;
    }

    /** A fraction of 0 or more, in lowest terms. */
    static final class Fraction {
        long above;
        long below = 1;

        void become(long newAbove, long newBelow) {
            cut(newAbove, newBelow, commonOf(newAbove, newBelow));
        }

        void add(long moreAbove, long moreBelow) {
            long allAbove = above * moreBelow + moreAbove * below;
            long allBelow = below * moreBelow;
            cut(allAbove, allBelow, commonOf(allAbove, allBelow));
        }

        private void cut(long newAbove, long newBelow, long common) {
            above = common > 1 ? newAbove / common : newAbove;
            below = common > 1 ? newBelow / common : newBelow;
        }

        boolean isFine() {
            return above > MOST_ABOVE_OR_BELOW || below > MOST_ABOVE_OR_BELOW;
        }

        boolean isMoreThan(Fraction other) {
            return above * other.below > other.above * below;
        }

        long partOf(int part) {
            switch (part) {
                case 0: return above;
                case 1: return below;
                default: return NO;
            }
        }

        /** The greatest common divisor; a hundred steps are more than Euclid's way takes for longs. */
        static long commonOf(long one, long other) {
            for (int step = 0; step < 100 && other != 0; step++) {
                long rest = one % other;
                one = other;
                other = rest;
            }
            return one;
        }

        /** The product of two numbers that are 0 or more; NO, if it is no long. */
        static long product(long one, long other) {
            if (one > 0 && other > MOST_LONG / one) return NO;
            return one * other;
        }

        /** n times more, by less, where that is whole; divided first, because only the end has to be a long. */
        static long timesBy(long n, long more, long less) {
            long common = commonOf(n, less);
            if (common < 1) return NO;
            long rest = less / common;
            if (rest < 1) return NO;
            return product(n / common, more / rest);
        }
    }

    /** Up to four numbers above and four below the line: multiplied only when all that can be is cancelled. */
    static final class Quotient {
        private static final int MOST = 4;
        private final long[] above = new long[MOST];
        private final long[] below = new long[MOST];
        private int size;
        private boolean isByZero;

        void clear() {
            size = 0;
            isByZero = false;
        }

        void times(Table table, int place) {
            append(table.above[place], table.below[place]);
        }

        void by(Table table, int place) {
            append(table.below[place], table.above[place]);
        }

        private void append(long newAbove, long newBelow) {
            if (size >= MOST) return;
            above[size] = newAbove;
            below[size] = newBelow;
            size++;
            if (newBelow == 0) isByZero = true;
        }

        /** NO for both parts, if there is a 0 below the line or either of them is no long. */
        long partOf(int part) {
            if (isByZero) return NO;
            cancel();
            long allAbove = productOf(above);
            long allBelow = productOf(below);
            if (allAbove == NO || allBelow == NO) return NO;
            return part == 0 ? allAbove : allBelow;
        }

        private void cancel() {
            for (int i = 0; i < size; i++) {
                for (int j = 0; j < size; j++) {
                    long common = Fraction.commonOf(above[i], below[j]);
                    if (common > 1) {
                        above[i] /= common;
                        below[j] /= common;
                    }
                }
            }
        }

        private long productOf(long[] numbers) {
            long all = 1;
            for (int i = 0; i < size; i++) {
                // Three of these numbers are always a long together, so that no 0 stands behind what is none.
                if (all != NO) all = Fraction.product(all, numbers[i]);
            }
            return all;
        }
    }

    /** What is told: the size, counts, marks, margins, and whether marks are fitted. */
    static final class Setting {
        static final int FIRST_COUNT = 1, FIRST_MARGIN = 10;
        int rows;
        int columns;
        boolean isThree;
        final int[] counts = new int[CELLS];
        final int[] marks = new int[CELLS];
        final int[] margins = new int[CELLS];

        Setting() {
            become(2, 2);
        }

        void become(int newRows, int newColumns) {
            rows = newRows;
            columns = newColumns;
            for (int place = 0; place < CELLS; place++) {
                counts[place] = FIRST_COUNT;
                marks[place] = 0;
                margins[place] = FIRST_MARGIN;
            }
        }

        void copyFrom(Setting other) {
            rows = other.rows;
            columns = other.columns;
            isThree = other.isThree;
            System.arraycopy(other.counts, 0, counts, 0, CELLS);
            System.arraycopy(other.marks, 0, marks, 0, CELLS);
            System.arraycopy(other.margins, 0, margins, 0, CELLS);
        }

        int cells() {
            return rows * columns;
        }

        boolean hasCell(int i, int j) {
            return i >= 0 && i < rows && j >= 0 && j < columns;
        }

        int lines(int way) {
            switch (way) {
                case ROWS: return rows;
                case COLUMNS: return columns;
                case MARKS: return MOST_MARK + 1;
                default: return 0;
            }
        }

        boolean hasLine(int way, int k) {
            return k >= 0 && k < lines(way);
        }

        int lineOf(int way, int i, int j) {
            switch (way) {
                case ROWS: return i;
                case COLUMNS: return j;
                default: return marks[place(i, j)];
            }
        }

        int allCounts() {
            int all = 0;
            for (int i = 0; i < rows; i++) {
                for (int j = 0; j < columns; j++) all += counts[place(i, j)];
            }
            return all;
        }

        int allMargins(int way) {
            int all = 0;
            for (int k = 0; k < lines(way); k++) all += margins[place(way, k)];
            return all;
        }

        /** Whole numbers with these margins are a flow from rows to columns: only a cut can hinder it. */
        boolean isPossible() {
            return allMargins(ROWS) == allMargins(COLUMNS) && forbids() == 0;
        }

        int forbids() {
            int best = 0;
            for (int set = 1; set < 1 << rows; set++) {
                boolean isFewer = best == 0 || Integer.bitCount(set) < Integer.bitCount(best);
                if (isFewer && marginsOf(set) > marginsReached(set)) best = set;
            }
            return best;
        }

        private int marginsOf(int set) {
            int all = 0;
            for (int i = 0; i < rows; i++) {
                if ((set >> i & 1) == 1) all += margins[place(ROWS, i)];
            }
            return all;
        }

        private int marginsReached(int set) {
            int all = 0;
            for (int j = 0; j < columns; j++) {
                if (isReached(set, j)) all += margins[place(COLUMNS, j)];
            }
            return all;
        }

        private boolean isReached(int set, int j) {
            for (int i = 0; i < rows; i++) {
                if ((set >> i & 1) == 1 && counts[place(i, j)] > 0) return true;
            }
            return false;
        }

        void happen(int what, int n) {
            switch (what) {
                case 0:
                    if (n >= 0 && hasCell(n / 10, n % 10)) counts[place(n / 10, n % 10)] = 0;
                    break;
                case 1:
                    raise(ROWS, n);
                    break;
                case 2:
                    raise(COLUMNS, n);
                    break;
                default:
                    for (int i = 0; i < rows; i++) margins[place(ROWS, i)] = n;
                    break;
            }
        }

        private void raise(int way, int k) {
            if (!hasLine(way, k)) return;
            margins[place(way, k)] = Math.min(MOST_MARGIN, margins[place(way, k)] + 1);
        }
    }

    /** The fractions, and how many rounds they have had. */
    static final class Table {
        final long[] above = new long[CELLS];
        final long[] below = new long[CELLS];
        int rounds;
        private final Fraction lineSum = new Fraction();
        private final Fraction fitted = new Fraction();

        Table() {
            for (int place = 0; place < CELLS; place++) {
                above[place] = Setting.FIRST_COUNT;
                below[place] = 1;
            }
        }

        void takeCounts(Setting setting) {
            for (int place = 0; place < CELLS; place++) {
                above[place] = setting.counts[place];
                below[place] = 1;
            }
            rounds = 0;
        }

        void copyFrom(Table other) {
            System.arraycopy(other.above, 0, above, 0, CELLS);
            System.arraycopy(other.below, 0, below, 0, CELLS);
            rounds = other.rounds;
        }

        int compare(int place, int other) {
            return Long.compare(above[place] * below[other], above[other] * below[place]);
        }

        int countOtherwise(Setting setting, Table other) {
            int otherwise = 0;
            for (int i = 0; i < setting.rows; i++) {
                for (int j = 0; j < setting.columns; j++) {
                    int place = place(i, j);
                    if (above[place] != other.above[place] || below[place] != other.below[place]) otherwise++;
                }
            }
            return otherwise;
        }

        /** Whether the line's sum, put into the fraction, isn't fine behind any of its cells. */
        boolean isSummed(Setting setting, int way, int k, Fraction into) {
            into.become(0, 1);
            for (int i = 0; i < setting.rows; i++) {
                for (int j = 0; j < setting.columns; j++) {
                    if (setting.lineOf(way, i, j) != k) continue;
                    into.add(above[place(i, j)], below[place(i, j)]);
                    if (into.isFine()) return false;
                }
            }
            return true;
        }

        /** Fits in place; a table that answers false is spoilt half-way, so that only copies are fitted. */
        boolean isFitted(Setting setting, int way) {
            for (int k = 0; k < setting.lines(way); k++) {
                if (!isSummed(setting, way, k, lineSum)) return false;
                if (lineSum.above > 0 && !isLineFitted(setting, way, k)) return false;
            }
            return true;
        }

        /** Takes the line's sum, above 0, from lineSum. */
        private boolean isLineFitted(Setting setting, int way, int k) {
            long times = setting.margins[place(way, k)] * lineSum.below;
            for (int i = 0; i < setting.rows; i++) {
                for (int j = 0; j < setting.columns; j++) {
                    if (setting.lineOf(way, i, j) != k) continue;
                    int place = place(i, j);
                    fitted.become(above[place] * times, below[place] * lineSum.above);
                    if (fitted.isFine()) return false;
                    above[place] = fitted.above;
                    below[place] = fitted.below;
                }
            }
            return true;
        }
    }

    /** Controlled rounding: the least table of whole numbers with every sum within one. */
    static final class Rounding {
        private static final int TOTAL = 6;
        final int[] values = new int[CELLS];
        private final int[] lowest = new int[CELLS];
        private final int[] highest = new int[CELLS];
        // Rows' sums lie at 0 to 2, columns' at 3 to 5, the sum of all at TOTAL.
        private final int[] least = new int[TOTAL + 1];
        private final int[] most = new int[TOTAL + 1];
        private final Fraction lineSum = new Fraction();
        private final Fraction total = new Fraction();
        private int rows;
        private int columns;

        boolean isFound(Setting setting, Table table) {
            rows = setting.rows;
            columns = setting.columns;
            if (!areSumsBounded(setting, table)) return false;
            boundCells(table);
            return isPutFrom(this, 0, 0);
        }

        private boolean areSumsBounded(Setting setting, Table table) {
            total.become(0, 1);
            for (int i = 0; i < rows; i++) {
                if (!table.isSummed(setting, ROWS, i, lineSum)) return false;
                boundLine(place(ROWS, i), lineSum);
                total.add(lineSum.above, lineSum.below);
                if (total.isFine()) return false;
            }
            for (int j = 0; j < columns; j++) {
                if (!table.isSummed(setting, COLUMNS, j, lineSum)) return false;
                boundLine(place(COLUMNS, j), lineSum);
            }
            boundLine(TOTAL, total);
            return true;
        }

        private void boundCells(Table table) {
            for (int place = 0; place < CELLS; place++) {
                lowest[place] = wholesOf(table.above[place], table.below[place]);
                highest[place] = lowest[place] + oneIf(lowest[place] * table.below[place] < table.above[place]);
            }
        }

        private void boundLine(int line, Fraction together) {
            least[line] = wholesOf(together.above, together.below);
            most[line] = least[line] + oneIf(least[line] * together.below < together.above);
        }

        private static int wholesOf(long above, long below) {
            return below > 0 ? (int) (above / below) : 0;
        }

        /** Goes one cell deeper each time, nine cells and three row ends at most; down is tried ahead of up. */
        private static boolean isPutFrom(Rounding table, int i, int j) {
            if (i >= table.rows) return table.doColumnsStand() && table.stands(TOTAL, table.allPut());
            if (j >= table.columns) return table.stands(place(ROWS, i), table.rowPut(i)) && isPutFrom(table, i + 1, 0);
            int place = place(i, j);
            for (int value = table.lowest[place]; value <= table.highest[place]; value++) {
                table.values[place] = value;
                if (isPutFrom(table, i, j + 1)) return true;
            }
            return false;
        }

        private boolean stands(int line, int all) {
            return all >= least[line] && all <= most[line];
        }

        private boolean doColumnsStand() {
            for (int j = 0; j < columns; j++) {
                int all = 0;
                for (int i = 0; i < rows; i++) all += values[place(i, j)];
                if (!stands(place(COLUMNS, j), all)) return false;
            }
            return true;
        }

        private int rowPut(int i) {
            int all = 0;
            for (int j = 0; j < columns; j++) all += values[place(i, j)];
            return all;
        }

        private int allPut() {
            int all = 0;
            for (int i = 0; i < rows; i++) all += rowPut(i);
            return all;
        }
    }

    /** Rows told by hand: a place (or what happens) and a number each. */
    static final class Notes {
        private final int most;
        int size;
        final int[] places;
        final int[] numbers;

        Notes(int most) {
            this.most = Math.max(0, most);
            places = new int[this.most];
            numbers = new int[this.most];
        }

        int empty() {
            size = 0;
            return 0;
        }

        int append(int place, int number) {
            if (size >= most) return FULL;
            places[size] = place;
            numbers[size] = number;
            size++;
            return size;
        }

        /** Both are made with the same bound. */
        void copyFrom(Notes other) {
            size = Math.min(other.size, most);
            for (int row = 0; row < size; row++) {
                places[row] = other.places[row];
                numbers[row] = other.numbers[row];
            }
        }
    }

    /** All that an image keeps. */
    static final class Picture {
        final Setting setting = new Setting();
        final Table table = new Table();
        final Notes seen = new Notes(MOST_SEEN);
        final Notes events = new Notes(MOST_EVENTS);
        final Notes book = new Notes(MOST_BOOKED);

        /** What was told by hand names cells and lines, which may be gone now. */
        void become(int rows, int columns) {
            setting.become(rows, columns);
            table.takeCounts(setting);
            seen.empty();
            events.empty();
            book.empty();
        }

        void copyFrom(Picture other) {
            setting.copyFrom(other.setting);
            table.copyFrom(other.table);
            seen.copyFrom(other.seen);
            events.copyFrom(other.events);
            book.copyFrom(other.book);
        }
    }

    /** The text of a set-up, and where its clauses end. */
    static final class Script {
        private final int[] signs = new int[MOST_SIGNS];
        int length;

        int append(int sign) {
            if (length >= MOST_SIGNS) return FULL;
            signs[length] = sign;
            length++;
            return length;
        }

        /** -1 behind the end, where no sign is. */
        int sign(int place) {
            return place >= 0 && place < length ? signs[place] : -1;
        }

        /** -1, if no digit stands there. */
        int digit(int place) {
            int sign = sign(place);
            return sign >= '0' && sign <= '9' ? sign - '0' : -1;
        }

        /** The number of one or two digits from a place up to an end; -1, if none stands there. */
        int number(int place, int end) {
            if (place >= end) return -1;
            return place + 1 < end ? 10 * digit(place) + digit(place + 1) : digit(place);
        }

        /** The first place from which no set-up can go on; -1, if the text is one. */
        int fault() {
            int place = 0;
            for (int clause = 1; clause <= MOST_CLAUSES; clause++) {
                int end = clauseEnd(place);
                if (end < 0) return -1 - end;
                if (end >= length) return -1;
                if (sign(end) != ';' || clause == MOST_CLAUSES) return end;
                place = end + 1;
            }
            return place;
        }

        /** The place behind the clause that begins at a place; -1 less the fault, if none does. */
        int clauseEnd(int start) {
            switch (sign(start)) {
                case 's': return digitsEnd(start + 1, 2, 2);
                case 'n':
                case 'm': return digitsEnd(start + 1, 3, 4);
                case 'k': return digitsEnd(start + 1, 3, 3);
                case 'x': return start + 1;
                default: return -1 - start;
            }
        }

        private int digitsEnd(int start, int fewest, int most) {
            int many = 0;
            while (many < most && digit(start + many) >= 0) many++;
            int end = start + many;
            return many < fewest ? -1 - end : end;
        }
    }

    /** The six tapes: what an item has is cut to its sort when it is put, and kept as a long. */
    static final class Tapes {
        static final int EMPTY = -1, BYTES = 0, SHORTS = 1, INTS = 2, LONGS = 3, BOOLEANS = 4;
        static final int MOST_ITEMS = 60;
        private static final int TAPES = 6;
        private final long[][] items = new long[TAPES][MOST_ITEMS];
        private final int[] sorts = new int[TAPES];
        private final int[] lengths = new int[TAPES];

        Tapes() {
            for (int tape = 0; tape < TAPES; tape++) sorts[tape] = EMPTY;
        }

        boolean hasTape(int tape) {
            return tape >= 0 && tape < TAPES;
        }

        boolean holds(int tape) {
            return sorts[tape] != EMPTY;
        }

        boolean isOfInts(int tape) {
            return sorts[tape] == INTS;
        }

        boolean isAlike(int tape, int other) {
            return sorts[tape] == sorts[other];
        }

        int lengthOf(int tape) {
            return lengths[tape];
        }

        /** A tape that holds nothing has length 0, and so no item. */
        boolean hasItem(int tape, int i) {
            return i >= 0 && i < lengths[tape];
        }

        /** Asked by what is left, because i + n may be beyond every int. */
        boolean hasItems(int tape, int i, int n) {
            return i >= 0 && n >= 0 && i <= lengths[tape] && n <= lengths[tape] - i;
        }

        long itemAt(int tape, int i) {
            return items[tape][i];
        }

        int become(int tape, int sort, int n) {
            sorts[tape] = sort;
            lengths[tape] = n;
            for (int i = 0; i < MOST_ITEMS; i++) items[tape][i] = 0;
            return 1;
        }

        int put(int tape, int i, long v) {
            items[tape][i] = cut(sorts[tape], v);
            return 1;
        }

        private static long cut(int sort, long v) {
            switch (sort) {
                case BYTES: return (byte) v;
                case SHORTS: return (short) v;
                case INTS: return (int) v;
                case BOOLEANS: return v != 0 ? 1 : 0;
                default: return v;
            }
        }

        /** The library copies as if by way of another row, so that a tape may be moved onto itself. */
        int move(int tape, int i, int other, int j, int n) {
            System.arraycopy(items[tape], i, items[other], j, n);
            return n;
        }
    }
}
