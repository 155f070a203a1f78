import java.util.Arrays;

/**
 * Imports lines of fields into rows: columns named by a head, types guessed by votes or told by
 * hand, faults gathered line by line. The document's words (TEXT, FORM, TYPE, MARK, ..) are used
 * here as it uses them.
 */
public final class FeatureImport {
    public static final int NONE = -1, BAD = -2, STATE = -3, FULL = -4;
    public static final long NO = Long.MIN_VALUE;

    private static final int ABSENT = -5;
    private static final int NOTHING = -11, CAST = -12, PLACE = -13, SIZE = -14;

    private static final int COLUMN_LIMIT = 5, NAME_LIMIT = 4;
    private static final int TEXT_LIMIT = 60, FIELD_LIMIT = 12;
    private static final int LINE_LIMIT = 24, SAMPLE_LIMIT = 24, FIRST_SAMPLE = 8;
    private static final int SEEN_LIMIT = 6, PLAN_LIMIT = 8, BOOK_LIMIT = 8;
    private static final int TAPE_LIMIT = 6, TAPE_SIZE_LIMIT = 60;

    private static final int EMPTY = 0, INT = 1, DECIMAL = 2, DATE = 3, WORD = 4;
    private static final int SHORT_LINE = 1, LONG_LINE = 2, UNFIT = 3, KEY_EMPTY = 4, KEY_TWICE = 5;
    private static final int COLUMN_CAUSE = 10, FORM_CAUSE = 20, LINE_CAUSE = 30;
    private static final int PLAN_IMPORT = 0, PLAN_KEY = 1, PLAN_RESET = 2;
    private static final int HOLDS_NOTHING = -1;
    private static final int BYTES = 0, SHORTS = 1, INTS = 2, LONGS = 3, BOOLEANS = 4;
    private static final int NO_FAULT_PLACE = -1, NO_COLUMN = -1;
    private static final int FAULT_ANSWER = -10, RAN_OUT_ANSWER = 100;

    private final Signs text = new Signs(TEXT_LIMIT);
    private final Signs sight = new Signs(FIELD_LIMIT);
    private final HeadNames names = new HeadNames();
    private final Table table = new Table();
    private final Table kept = new Table();
    private final Progress trial = new Progress();
    private final long[] gathered = new long[LINE_LIMIT];
    private final Tape[] tapes = new Tape[TAPE_LIMIT];
    private boolean isKept = false;

    public FeatureImport() {
        for (int i = 0; i < tapes.length; i++) tapes[i] = new Tape();
    }

    // ---- head, lines

    public int feed(int sign) {
        if (sign < 0 || sign > 127) return BAD;
        if (text.size >= TEXT_LIMIT) return FULL;
        text.add(sign);
        return text.size;
    }

    public int head() {
        int place = names.faultPlaceIn(text);
        text.clear();
        if (place != NO_FAULT_PLACE) return FAULT_ANSWER - place;
        table.begin(names);
        return table.columns;
    }

    public int line() {
        if (table.columns == 0) return STATE;
        if (table.lineCount >= LINE_LIMIT) return FULL;
        int place = lineFaultPlace(text);
        if (place != NO_FAULT_PLACE) {
            text.clear();
            return FAULT_ANSWER - place;
        }
        table.addLine(new Line(text));
        text.clear();
        return table.lineCount - 1;
    }

    public int sample(int n) {
        if (n < 1 || n > SAMPLE_LIMIT) return BAD;
        int before = table.sample;
        table.sample = n;
        return before;
    }

    public int type(int column, int type) {
        if (!table.hasColumn(column)) return NONE;
        if (type < 0 || type > WORD) return BAD;
        int before = table.told[column];
        table.told[column] = type;
        return before;
    }

    public int key(int column) {
        if (column != NO_COLUMN && !table.hasColumn(column)) return NONE;
        if (table.progress.mark > 0) return STATE;
        int before = keyOrAbsent();
        table.progress.key = column;
        return before;
    }

    public int column(int column, int what) {
        if (!table.hasColumn(column)) return NONE;
        switch (what) {
            case 0: return table.typeOf(column);
            case 1: return table.guessBy(column, table.sample);
            case 2: return table.told[column];
            case 3: return table.progress.settled[column];
            case 4: return table.nameSizes[column];
            default: return NONE;
        }
    }

    public int of(int line, int what) {
        Line asked = table.lineAt(line);
        if (asked == null || what < 0) return NONE;
        switch (what) {
            case 0: return asked.fields.length;
            case 1: return table.progress.isImported(line) ? 1 : 0;
            case 2: return table.progress.rowOf(line);
            default:
                Field field = asked.fieldAt(what - 3);
                return field == null ? ABSENT : field.form;
        }
    }

    public int votes(int column, int form) {
        if (!table.hasColumn(column) || form < EMPTY || form > WORD) return NONE;
        return table.votesFor(column, form, table.sample);
    }

    // ---- importing

    public int run(int n) {
        if (n < 0 || n > LINE_LIMIT) return BAD;
        return table.importLines(table.progress, n);
    }

    public int reset() {
        int before = table.progress.mark;
        table.progress.restart();
        return before;
    }

    public int fault(int line, int k) {
        if (table.lineAt(line) == null || k < 0) return NONE;
        return table.progress.faultPart(line, k);
    }

    public int told(int what) {
        Progress progress = table.progress;
        switch (what) {
            case 0: return progress.mark;
            case 1: return progress.rows;
            case 2: return progress.faultyLines();
            case 3: return table.columns;
            case 4: return keyOrAbsent();
            case 5: return table.sample;
            case 6: return progress.linesWith(UNFIT);
            case 7: return progress.linesWith(KEY_TWICE);
            default: return NONE;
        }
    }

    public long value(int row, int column) {
        Field field = rowField(row, column);
        if (field == null || field.form == EMPTY) return NO;
        return field.valueAs(table.typeOf(column));
    }

    public int shown(int row, int column, int i) {
        Field field = rowField(row, column);
        if (field == null) return NONE;
        sight.clear();
        writeShown(field, table.typeOf(column));
        return i < 0 || i >= sight.size ? NONE : sight.at(i);
    }

    public long feature(int column, int what) {
        if (!table.hasColumn(column)) return NO;
        int found = gatherValues(column);
        switch (what) {
            case 0: return found;
            case 1: return found == 0 ? NO : leastGathered(found);
            case 2: return found == 0 ? NO : greatestGathered(found);
            case 3: return unlikeGathered(found);
            case 4: return table.progress.rows - found;
            default: return NO;
        }
    }

    // ---- what would be

    public int would(int column, int type) {
        if (!table.hasColumn(column)) return NONE;
        if (type < INT || type > WORD) return BAD;
        table.rehearse(trial, table.sample, column, type);
        return trial.faultyLines();
    }

    public int need(int column, int type) {
        if (!table.hasColumn(column)) return NONE;
        if (type < INT || type > WORD) return BAD;
        for (int sample = 1; sample <= SAMPLE_LIMIT; sample++) {
            if (table.guessBy(column, sample) == type) return sample;
        }
        return ABSENT;
    }

    public int see(int line, boolean isFault) {
        if (line == -1) return table.seen.clear();
        if (table.lineAt(line) == null) return NONE;
        return table.seen.enter(line, isFault ? 1 : 0);
    }

    public int fits(int what) {
        if (what != 0 && what != 1) return NONE;
        int fitting = 0;
        int least = ABSENT;
        for (int sample = 1; sample <= SAMPLE_LIMIT; sample++) {
            table.rehearse(trial, sample, NO_COLUMN, EMPTY);
            if (isSeenSo(trial)) {
                fitting++;
                if (least == ABSENT) least = sample;
            }
        }
        return what == 0 ? fitting : least;
    }

    public long odds(int part) {
        return lowestTerms(table.progress.faultyLines(), table.progress.mark, part);
    }

    public long mean(int column, int part) {
        if (!table.hasColumn(column) || table.typeOf(column) == WORD) return NO;
        int found = gatherValues(column);
        long sum = 0;
        for (int i = 0; i < found && i < gathered.length; i++) sum += gathered[i];
        return lowestTerms(sum, found, part);
    }

    // ---- plans, books

    public int plan(int what, int n) {
        if (what == -1) return table.plan.clear();
        if (what < PLAN_IMPORT || what > PLAN_RESET) return NONE;
        if (what == PLAN_KEY && n != NO_COLUMN && !table.hasColumn(n)) return NONE;
        if (what == PLAN_IMPORT && (n < 0 || n > LINE_LIMIT)) return BAD;
        return table.plan.enter(what, n);
    }

    public int ends(int what) {
        if (what != 0 && what != 1) return NONE;
        trial.copyFrom(table.progress);
        table.carryOutPlan(trial);
        return what == 0 ? trial.rows : trial.faultyLines();
    }

    public int book(int column, int type) {
        if (column == -1) return table.book.clear();
        if (!table.hasColumn(column)) return NONE;
        if (type < INT || type > WORD) return BAD;
        return table.book.enter(column, type);
    }

    public int looked() {
        HandRows book = table.book;
        for (int i = 0; i < book.size; i++) {
            int column = book.firstOf(i);
            if (!table.hasColumn(column) || table.typeOf(column) != book.secondOf(i)) return i;
        }
        return ABSENT;
    }

    // ---- judging, the image, tapes

    public int judge(int column, int tape, int i) {
        Tape asked = tapeAt(tape);
        if (!table.hasColumn(column) || asked == null) return NONE;
        if (asked.sort != HOLDS_NOTHING && asked.sort != LONGS) return CAST;
        int found = gatherValues(column);
        for (int looked = 0; looked < found && looked < gathered.length; looked++) {
            if (i < 0 || i >= asked.size - looked) return RAN_OUT_ANSWER + looked;
            if (asked.itemAt(i + looked) != gathered[looked]) return looked;
        }
        return ABSENT;
    }

    public int image() {
        kept.copyFrom(table);
        isKept = true;
        return table.lineCount;
    }

    public int undo() {
        if (!isKept) return STATE;
        table.copyFrom(kept);
        return table.lineCount;
    }

    public int taken(int row, int column, int sort) {
        if (sort < 0 || sort > WORD) return BAD;
        Field field = rowField(row, column);
        if (field == null || field.form == EMPTY) return NOTHING;
        int type = table.typeOf(column);
        boolean isSo = sort == 0 ? type != WORD : type == sort;
        return isSo ? type : CAST;
    }

    public int count(int what) {
        switch (what) {
            case 0: return table.lineCount;
            case 1: return table.seen.size;
            case 2: return table.plan.size;
            case 3: return table.book.size;
            case 4: return text.size;
            default: return BAD;
        }
    }

    public int tape(int tape, int sort, int n) {
        Tape changed = tapeAt(tape);
        if (changed == null) return NONE;
        if (sort < HOLDS_NOTHING || sort > BOOLEANS) return BAD;
        if (sort != HOLDS_NOTHING && n > TAPE_SIZE_LIMIT) return BAD;
        if (sort != HOLDS_NOTHING && n < 0) return SIZE;
        changed.become(sort, sort == HOLDS_NOTHING ? 0 : n);
        return 1;
    }

    public int item(int tape, int i, long v) {
        Tape changed = tapeAt(tape);
        if (changed == null) return NONE;
        if (changed.sort == HOLDS_NOTHING) return NOTHING;
        if (!changed.hasPlace(i)) return PLACE;
        changed.put(i, v);
        return 1;
    }

    public long read(int tape, int i) {
        Tape asked = tapeAt(tape);
        return asked != null && asked.hasPlace(i) ? asked.itemAt(i) : NO;
    }

    public int shift(int tape, int i, int other, int j, int n) {
        Tape from = tapeAt(tape);
        Tape to = tapeAt(other);
        if (from == null || to == null) return NONE;
        if (from.sort == HOLDS_NOTHING || to.sort == HOLDS_NOTHING) return NOTHING;
        if (from.sort != to.sort) return CAST;
        if (!from.hasStretch(i, n) || !to.hasStretch(j, n)) return PLACE;
        System.arraycopy(from.items, i, to.items, j, n);
        return n;
    }

    // ---- what the calls share

    private int keyOrAbsent() {
        return table.progress.key == NO_COLUMN ? ABSENT : table.progress.key;
    }

    private Tape tapeAt(int tape) {
        return tape >= 0 && tape < tapes.length ? tapes[tape] : null;
    }

    private Field rowField(int row, int column) {
        if (!table.hasColumn(column)) return null;
        Line line = table.lineAt(table.progress.lineOf(row));
        return line == null ? null : line.fieldAt(column);
    }

    private static int lineFaultPlace(Signs text) {
        int length = 0;
        for (int place = 0; place < text.size; place++) {
            int sign = text.at(place);
            if (sign == ',') {
                length = 0;
            } else if (sign < 32 || sign > 126 || length == FIELD_LIMIT) {
                return place;
            } else {
                length++;
            }
        }
        return NO_FAULT_PLACE;
    }

    private void writeShown(Field field, int type) {
        if (field.form == EMPTY) return;
        if (type == WORD) {
            for (int i = 0; i < field.signs.length; i++) sight.add(field.signs[i]);
        } else if (type == DATE) {
            sight.addDigits(Days.yearIn(field.signs), 4);
            sight.add('-');
            sight.addDigits(Days.monthIn(field.signs), 2);
            sight.add('-');
            sight.addDigits(Days.dayIn(field.signs), 2);
        } else {
            writeNumber(field.valueAs(type), type == DECIMAL);
        }
    }

    private void writeNumber(long number, boolean isThousandths) {
        if (number < 0) sight.add('-');
        long size = Math.abs(number);
        if (isThousandths) {
            sight.addDigits(size / 1000, 1);
            sight.add('.');
            sight.addDigits(size % 1000, 3);
        } else {
            sight.addDigits(size, 1);
        }
    }

    /** Puts the VALUES of a COLUMN, of ROWS that have one, into the row gathered: how many. */
    private int gatherValues(int column) {
        int found = 0;
        for (int row = 0; row < table.progress.rows; row++) {
            Field field = rowField(row, column);
            if (field != null && field.form != EMPTY && found < gathered.length) {
                gathered[found] = field.valueAs(table.typeOf(column));
                found++;
            }
        }
        return found;
    }

    private long leastGathered(int found) {
        long least = Long.MAX_VALUE;
        for (int i = 0; i < found && i < gathered.length; i++) least = Math.min(least, gathered[i]);
        return least;
    }

    private long greatestGathered(int found) {
        long greatest = Long.MIN_VALUE;
        for (int i = 0; i < found && i < gathered.length; i++) {
            greatest = Math.max(greatest, gathered[i]);
        }
        return greatest;
    }

    private int unlikeGathered(int found) {
        int unlike = 0;
        for (int i = 0; i < found && i < gathered.length; i++) {
            boolean isNew = true;
            for (int j = 0; j < i; j++) {
                if (gathered[j] == gathered[i]) isNew = false;
            }
            if (isNew) unlike++;
        }
        return unlike;
    }

    private boolean isSeenSo(Progress progress) {
        HandRows seen = table.seen;
        for (int i = 0; i < seen.size; i++) {
            boolean isFault = progress.faultPart(seen.firstOf(i), 0) != ABSENT;
            if (isFault != (seen.secondOf(i) == 1)) return false;
        }
        return true;
    }

    /** The part 0 above or 1 below the line of a fraction whose lower number is small. */
    private static long lowestTerms(long above, int below, int part) {
        if (below <= 0 || (part != 0 && part != 1)) return NO;
        int common = below;
        while (common > 1 && (above % common != 0 || below % common != 0)) common--;
        return part == 0 ? above / common : below / common;
    }

    /** A row of signs that grows up to a limit: THE TEXT, and what a VALUE is SHOWN as. */
    private static final class Signs {
        final byte[] signs;
        int size = 0;

        Signs(int limit) {
            signs = new byte[Math.max(0, limit)];
        }

        void clear() {
            size = 0;
        }

        void add(int sign) {
            if (size < signs.length) {
                signs[size] = (byte) sign;
                size++;
            }
        }

        /** Writes a number of 0 or more, with 0 ahead until it has the width. */
        void addDigits(long number, int width) {
            long unit = 1;
            for (int digits = 1; digits < 18; digits++) {
                if (digits >= width && unit * 10 > number) break;
                unit *= 10;
            }
            for (; unit > 0; unit /= 10) add('0' + (int) (number / unit % 10));
        }

        int at(int i) {
            return i >= 0 && i < size && i < signs.length ? signs[i] : -1;
        }
    }

    /** Reads a HEAD: where its NAMES stand and how long they are. */
    private static final class HeadNames {
        final int[] starts = new int[COLUMN_LIMIT];
        final int[] sizes = new int[COLUMN_LIMIT];
        int found = 0;

        int faultPlaceIn(Signs text) {
            found = 0;
            int place = 0;
            while (found < COLUMN_LIMIT) {
                int letters = lettersFrom(text, place);
                if (letters == 0 || isNameAhead(text, place, letters)) return place;
                starts[found] = place;
                sizes[found] = letters;
                found++;
                place += letters;
                if (place == text.size) return NO_FAULT_PLACE;
                if (text.at(place) != ',' || found == COLUMN_LIMIT) return place;
                place++;
            }
            return place;
        }

        private static int lettersFrom(Signs text, int place) {
            int letters = 0;
            while (letters < NAME_LIMIT && isLetter(text.at(place + letters))) letters++;
            return letters;
        }

        private static boolean isLetter(int sign) {
            return sign >= 'a' && sign <= 'z';
        }

        private boolean isNameAhead(Signs text, int place, int letters) {
            for (int name = 0; name < found && name < COLUMN_LIMIT; name++) {
                boolean isAlike = sizes[name] == letters;
                for (int i = 0; i < letters && isAlike; i++) {
                    isAlike = text.at(starts[name] + i) == text.at(place + i);
                }
                if (isAlike) return true;
            }
            return false;
        }
    }

    /** Dates by the two patterns, and the days between them. */
    private static final class Days {
        private static final String DAY_FIRST = "00/00/0000";
        private static final String YEAR_FIRST = "0000-00-00";
        private static final int[] AHEAD_OF_MONTH =
            {0, 31, 59, 90, 120, 151, 181, 212, 243, 273, 304, 334, 365};

        static boolean isDate(byte[] signs) {
            if (!looksLike(signs, DAY_FIRST) && !looksLike(signs, YEAR_FIRST)) return false;
            int year = yearIn(signs);
            int month = monthIn(signs);
            int day = dayIn(signs);
            return year >= 1900 && year <= 2099 && day >= 1 && day <= lengthOf(year, month);
        }

        static int yearIn(byte[] signs) {
            return isDayFirst(signs) ? digits(signs, 6, 10) : digits(signs, 0, 4);
        }

        static int monthIn(byte[] signs) {
            return isDayFirst(signs) ? digits(signs, 3, 5) : digits(signs, 5, 7);
        }

        static int dayIn(byte[] signs) {
            return isDayFirst(signs) ? digits(signs, 0, 2) : digits(signs, 8, 10);
        }

        static long since2000(byte[] signs) {
            int year = yearIn(signs);
            int month = monthIn(signs);
            if (month < 1 || month > 12) return 0;
            int leapDay = month > 2 && isLeap(year) ? 1 : 0;
            int inYear = AHEAD_OF_MONTH[month - 1] + leapDay + dayIn(signs) - 1;
            return aheadOfYear(year) - aheadOfYear(2000) + inYear;
        }

        /** Which of the two patterns a date has that has one of them. */
        private static boolean isDayFirst(byte[] signs) {
            return signs.length > 2 && signs[2] == '/';
        }

        private static boolean looksLike(byte[] signs, String pattern) {
            if (signs.length != pattern.length()) return false;
            for (int i = 0; i < signs.length; i++) {
                char wanted = pattern.charAt(i);
                boolean isSo = wanted == '0' ? isDigit(signs[i]) : signs[i] == wanted;
                if (!isSo) return false;
            }
            return true;
        }

        private static int digits(byte[] signs, int from, int to) {
            int number = 0;
            for (int i = from; i < to && i < signs.length; i++) {
                number = number * 10 + signs[i] - '0';
            }
            return number;
        }

        private static boolean isLeap(int year) {
            return year % 4 == 0 && (year % 100 != 0 || year % 400 == 0);
        }

        private static int lengthOf(int year, int month) {
            if (month < 1 || month > 12) return 0;
            int leapDay = month == 2 && isLeap(year) ? 1 : 0;
            return AHEAD_OF_MONTH[month] - AHEAD_OF_MONTH[month - 1] + leapDay;
        }

        private static int aheadOfYear(int year) {
            int full = year - 1;
            return full * 365 + full / 4 - full / 100 + full / 400;
        }

        static boolean isDigit(int sign) {
            return sign >= '0' && sign <= '9';
        }
    }

    /** A FIELD: its bytes, its FORM, and its VALUES, worked out once as it comes. */
    private static final class Field {
        final byte[] signs;
        final int form;
        final long number;
        final long word;

        Field(byte[] signs) {
            this.signs = signs;
            this.form = formIn(signs);
            this.number = numberIn(signs, form);
            this.word = wordIn(signs);
        }

        boolean canBe(int type) {
            return form == EMPTY || form == type || type == WORD
                || (form == INT && type == DECIMAL);
        }

        long valueAs(int type) {
            if (type == WORD) return word;
            return form == INT && type == DECIMAL ? number * 1000 : number;
        }

        private static int formIn(byte[] signs) {
            if (signs.length == 0) return EMPTY;
            int from = signs[0] == '-' ? 1 : 0;
            int digits = digitsFrom(signs, from);
            int behind = from + digits;
            if (digits >= 1 && digits <= 6) {
                if (behind == signs.length) return INT;
                if (signs[behind] == '.' && isFraction(signs, behind + 1)) return DECIMAL;
            }
            return Days.isDate(signs) ? DATE : WORD;
        }

        private static boolean isFraction(byte[] signs, int from) {
            int digits = digitsFrom(signs, from);
            return digits >= 1 && digits <= 3 && from + digits == signs.length;
        }

        private static int digitsFrom(byte[] signs, int from) {
            int place = from;
            while (place >= 0 && place < signs.length && Days.isDigit(signs[place])) place++;
            return place - from;
        }

        private static long numberIn(byte[] signs, int form) {
            if (form == INT) return scaledNumber(signs, 0);
            if (form == DECIMAL) return scaledNumber(signs, 3);
            return form == DATE ? Days.since2000(signs) : 0;
        }

        private static long scaledNumber(byte[] signs, int places) {
            long number = 0;
            int behindDot = 0;
            boolean isBehindDot = false;
            for (int i = 0; i < signs.length; i++) {
                if (signs[i] == '.') isBehindDot = true;
                if (Days.isDigit(signs[i])) {
                    number = number * 10 + signs[i] - '0';
                    if (isBehindDot) behindDot++;
                }
            }
            for (int i = behindDot; i < places; i++) number *= 10;
            return signs.length > 0 && signs[0] == '-' ? -number : number;
        }

        private static long wordIn(byte[] signs) {
            long word = 0;
            for (int i = 0; i < signs.length; i++) word = word * 257 + signs[i];
            return word;
        }
    }

    /** A LINE without a FAULT OF THE TEXT, cut into its FIELDS; it never changes. */
    private static final class Line {
        final Field[] fields;

        Line(Signs text) {
            fields = new Field[commasIn(text) + 1];
            int from = 0;
            for (int i = 0; i < fields.length; i++) {
                int to = endFrom(text, from);
                byte[] signs = new byte[Math.max(0, to - from)];
                for (int k = 0; k < signs.length; k++) signs[k] = (byte) text.at(from + k);
                fields[i] = new Field(signs);
                from = to + 1;
            }
        }

        Field fieldAt(int i) {
            return i >= 0 && i < fields.length ? fields[i] : null;
        }

        private static int commasIn(Signs text) {
            int commas = 0;
            for (int i = 0; i < text.size; i++) {
                if (text.at(i) == ',') commas++;
            }
            return commas;
        }

        private static int endFrom(Signs text, int from) {
            int end = from;
            while (end < text.size && text.at(end) != ',') end++;
            return end;
        }
    }

    /** What is IMPORTED and SETTLED, and the KEY that goes with it. */
    private static final class Progress {
        final int[] settled = new int[COLUMN_LIMIT];
        final int[] faults = new int[LINE_LIMIT];
        final int[] causes = new int[LINE_LIMIT];
        final int[] deeperCauses = new int[LINE_LIMIT];
        final int[] rowsOfLines = new int[LINE_LIMIT];
        final int[] linesOfRows = new int[LINE_LIMIT];
        int mark = 0;
        int rows = 0;
        int key = NO_COLUMN;

        void restart() {
            mark = 0;
            rows = 0;
            Arrays.fill(settled, 0);
        }

        void copyFrom(Progress other) {
            System.arraycopy(other.settled, 0, settled, 0, COLUMN_LIMIT);
            System.arraycopy(other.faults, 0, faults, 0, LINE_LIMIT);
            System.arraycopy(other.causes, 0, causes, 0, LINE_LIMIT);
            System.arraycopy(other.deeperCauses, 0, deeperCauses, 0, LINE_LIMIT);
            System.arraycopy(other.rowsOfLines, 0, rowsOfLines, 0, LINE_LIMIT);
            System.arraycopy(other.linesOfRows, 0, linesOfRows, 0, LINE_LIMIT);
            mark = other.mark;
            rows = other.rows;
            key = other.key;
        }

        void passFault(int fault, int cause, int deeperCause) {
            if (mark >= LINE_LIMIT) return;
            faults[mark] = fault;
            causes[mark] = cause;
            deeperCauses[mark] = deeperCause;
            rowsOfLines[mark] = ABSENT;
            mark++;
        }

        void passRow() {
            if (mark >= LINE_LIMIT || rows >= LINE_LIMIT) return;
            faults[mark] = ABSENT;
            causes[mark] = ABSENT;
            deeperCauses[mark] = ABSENT;
            rowsOfLines[mark] = rows;
            linesOfRows[rows] = mark;
            rows++;
            mark++;
        }

        boolean isImported(int line) {
            return line >= 0 && line < mark && line < LINE_LIMIT;
        }

        int rowOf(int line) {
            return isImported(line) ? rowsOfLines[line] : ABSENT;
        }

        /** The LINE of a ROW; ABSENT is no LINE's number. */
        int lineOf(int row) {
            return row >= 0 && row < rows && row < LINE_LIMIT ? linesOfRows[row] : ABSENT;
        }

        int faultPart(int line, int k) {
            if (!isImported(line)) return ABSENT;
            switch (k) {
                case 0: return faults[line];
                case 1: return causes[line];
                case 2: return deeperCauses[line];
                default: return ABSENT;
            }
        }

        int faultyLines() {
            return mark - rows;
        }

        int linesWith(int fault) {
            int found = 0;
            for (int line = 0; line < mark && line < LINE_LIMIT; line++) {
                if (faults[line] == fault) found++;
            }
            return found;
        }
    }

    /** Rows of two numbers told by hand, up to a limit: SEEN, the PLAN, the BOOK. */
    private static final class HandRows {
        private final int[] firsts;
        private final int[] seconds;
        int size = 0;

        HandRows(int limit) {
            firsts = new int[Math.max(0, limit)];
            seconds = new int[Math.max(0, limit)];
        }

        int clear() {
            size = 0;
            return size;
        }

        int enter(int first, int second) {
            if (size >= firsts.length || size >= seconds.length) return FULL;
            firsts[size] = first;
            seconds[size] = second;
            size++;
            return size;
        }

        int firstOf(int i) {
            return i >= 0 && i < size && i < firsts.length ? firsts[i] : ABSENT;
        }

        int secondOf(int i) {
            return i >= 0 && i < size && i < seconds.length ? seconds[i] : ABSENT;
        }

        void copyFrom(HandRows other) {
            clear();
            for (int i = 0; i < other.size; i++) enter(other.firstOf(i), other.secondOf(i));
        }
    }

    /** All that THE IMAGE holds: COLUMNS, LINES, what is told by hand, what is IMPORTED. */
    private static final class Table {
        final int[] nameSizes = new int[COLUMN_LIMIT];
        final int[] told = new int[COLUMN_LIMIT];
        final Progress progress = new Progress();
        final HandRows seen = new HandRows(SEEN_LIMIT);
        final HandRows plan = new HandRows(PLAN_LIMIT);
        final HandRows book = new HandRows(BOOK_LIMIT);
        private final Line[] lines = new Line[LINE_LIMIT];
        private final int[] ballot = new int[WORD + 1];
        int columns = 0;
        int lineCount = 0;
        int sample = FIRST_SAMPLE;

        void begin(HeadNames names) {
            columns = names.found;
            System.arraycopy(names.sizes, 0, nameSizes, 0, COLUMN_LIMIT);
            Arrays.fill(told, 0);
            lineCount = 0;
            progress.restart();
            progress.key = NO_COLUMN;
            seen.clear();
            plan.clear();
            book.clear();
        }

        void copyFrom(Table other) {
            System.arraycopy(other.nameSizes, 0, nameSizes, 0, COLUMN_LIMIT);
            System.arraycopy(other.told, 0, told, 0, COLUMN_LIMIT);
            for (int i = 0; i < LINE_LIMIT; i++) lines[i] = other.lines[i];
            columns = other.columns;
            lineCount = other.lineCount;
            sample = other.sample;
            progress.copyFrom(other.progress);
            seen.copyFrom(other.seen);
            plan.copyFrom(other.plan);
            book.copyFrom(other.book);
        }

        void addLine(Line line) {
            if (lineCount >= LINE_LIMIT) return;
            lines[lineCount] = line;
            lineCount++;
        }

        boolean hasColumn(int column) {
            return column >= 0 && column < columns && column < COLUMN_LIMIT;
        }

        /** A LINE, or null if there is no such one. */
        Line lineAt(int line) {
            return line >= 0 && line < lineCount && line < LINE_LIMIT ? lines[line] : null;
        }

        int typeOf(int column) {
            if (!hasColumn(column)) return WORD;
            int settled = progress.settled[column];
            return settled != 0 ? settled : toldOrGuess(column, sample);
        }

        private int toldOrGuess(int column, int bySample) {
            if (!hasColumn(column)) return WORD;
            return told[column] != 0 ? told[column] : guessBy(column, bySample);
        }

        int guessBy(int column, int bySample) {
            countForms(column, bySample);
            int guess = WORD;
            for (int form = DATE; form >= INT; form--) {
                if (ballot[form] > ballot[guess]) guess = form;
            }
            return guess;
        }

        int votesFor(int column, int form, int bySample) {
            countForms(column, bySample);
            return form >= EMPTY && form < ballot.length ? ballot[form] : 0;
        }

        private void countForms(int column, int bySample) {
            Arrays.fill(ballot, 0);
            for (int i = 0; i < bySample && i < lineCount; i++) {
                Line line = lineAt(i);
                Field field = line == null ? null : line.fieldAt(column);
                if (field != null && field.form >= EMPTY && field.form < ballot.length) {
                    ballot[field.form]++;
                }
            }
        }

        int importLines(Progress into, int n) {
            int imported = 0;
            while (imported < n && into.mark < lineCount && into.mark < LINE_LIMIT) {
                if (into.mark == 0) settle(into, sample, NO_COLUMN, EMPTY);
                importNext(into);
                imported++;
            }
            return imported;
        }

        /** Imports all LINES from the first on, as if by a SAMPLE, with one TYPE told perhaps. */
        void rehearse(Progress into, int bySample, int toldColumn, int toldType) {
            into.restart();
            into.key = progress.key;
            settle(into, bySample, toldColumn, toldType);
            for (int i = 0; i < lineCount; i++) importNext(into);
        }

        void carryOutPlan(Progress into) {
            for (int i = 0; i < plan.size; i++) {
                int n = plan.secondOf(i);
                switch (plan.firstOf(i)) {
                    case PLAN_IMPORT:
                        importLines(into, n);
                        break;
                    case PLAN_KEY:
                        into.key = n;
                        break;
                    default:
                        into.restart();
                        break;
                }
            }
        }

        private void settle(Progress into, int bySample, int toldColumn, int toldType) {
            for (int column = 0; column < columns && column < COLUMN_LIMIT; column++) {
                into.settled[column] =
                    column == toldColumn ? toldType : toldOrGuess(column, bySample);
            }
        }

        private void importNext(Progress into) {
            Line next = lineAt(into.mark);
            if (next == null) return;
            if (next.fields.length < columns) {
                into.passFault(SHORT_LINE, ABSENT, ABSENT);
            } else if (next.fields.length > columns) {
                into.passFault(LONG_LINE, ABSENT, ABSENT);
            } else if (!passUnfit(next, into) && !passByKey(next, into)) {
                into.passRow();
            }
        }

        private boolean passUnfit(Line next, Progress into) {
            for (int column = 0; column < columns && column < COLUMN_LIMIT; column++) {
                Field field = next.fieldAt(column);
                if (field != null && !field.canBe(into.settled[column])) {
                    into.passFault(UNFIT, COLUMN_CAUSE + column, FORM_CAUSE + field.form);
                    return true;
                }
            }
            return false;
        }

        private boolean passByKey(Line next, Progress into) {
            if (!hasColumn(into.key)) return false;
            Field field = next.fieldAt(into.key);
            if (field == null) return false;
            if (field.form == EMPTY) {
                into.passFault(KEY_EMPTY, ABSENT, ABSENT);
                return true;
            }
            int earlier = lineWithKeyOf(field, into);
            if (earlier == ABSENT) return false;
            into.passFault(KEY_TWICE, LINE_CAUSE + earlier, ABSENT);
            return true;
        }

        private int lineWithKeyOf(Field field, Progress into) {
            if (!hasColumn(into.key)) return ABSENT;
            int type = into.settled[into.key];
            for (int row = 0; row < into.rows; row++) {
                Line line = lineAt(into.lineOf(row));
                Field other = line == null ? null : line.fieldAt(into.key);
                // A PLAN may change KEY between ROWS, so that an earlier one has no VALUE there.
                boolean hasValue = other != null && other.form != EMPTY;
                if (hasValue && other.valueAs(type) == field.valueAs(type)) return into.lineOf(row);
            }
            return ABSENT;
        }
    }

    /** A TAPE: the items of any sort stand as longs, cut to their sort as they come. */
    private static final class Tape {
        final long[] items = new long[TAPE_SIZE_LIMIT];
        int sort = HOLDS_NOTHING;
        int size = 0;

        void become(int newSort, int newSize) {
            sort = newSort;
            size = Math.max(0, Math.min(newSize, TAPE_SIZE_LIMIT));
            Arrays.fill(items, 0);
        }

        boolean hasPlace(int i) {
            return i >= 0 && i < size && i < items.length;
        }

        boolean hasStretch(int from, int n) {
            return n >= 0 && from >= 0 && n <= size && from <= size - n;
        }

        long itemAt(int i) {
            return hasPlace(i) ? items[i] : NO;
        }

        void put(int i, long v) {
            if (hasPlace(i)) items[i] = cut(v);
        }

        private long cut(long v) {
            switch (sort) {
                case BYTES: return (byte) v;
                case SHORTS: return (short) v;
                case INTS: return (int) v;
                case BOOLEANS: return v != 0 ? 1 : 0;
                default: return v;
            }
        }
    }
}
