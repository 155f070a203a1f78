import java.math.BigDecimal;
import java.math.BigInteger;
import java.time.DateTimeException;
import java.time.LocalDate;
import java.time.temporal.ChronoUnit;
import java.util.ArrayList;
import java.util.Arrays;
import java.util.HashSet;
import java.util.List;
import java.util.Objects;

/**
 * The document once more, written with the whole Java library and without keeping anything that
 * can be worked out anew: what the random runs compare the program's answers with.
 */
final class Model {
    /** An answer that the random runs leave out, as the document can be read in two ways there. */
    static final int UNCLEAR = -999;

    private static final long NO = Long.MIN_VALUE;

    private static final class State {
        List<String> names = new ArrayList<>();
        List<String> lines = new ArrayList<>();
        int[] told = new int[5];
        int[] settled = new int[5];
        int sample = 8;
        int key = -1;
        int mark = 0;
        List<int[]> seen = new ArrayList<>();
        List<int[]> plan = new ArrayList<>();
        List<int[]> book = new ArrayList<>();

        State copy() {
            State copy = new State();
            copy.names = new ArrayList<>(names);
            copy.lines = new ArrayList<>(lines);
            copy.told = told.clone();
            copy.settled = settled.clone();
            copy.sample = sample;
            copy.key = key;
            copy.mark = mark;
            copy.seen = new ArrayList<>(seen);
            copy.plan = new ArrayList<>(plan);
            copy.book = new ArrayList<>(book);
            return copy;
        }
    }

    /** What became of an IMPORTED LINE: its ROW or its FAULT with CAUSES (-5: none). */
    private record Outcome(int row, int fault, int cause, int deeper) {
    }

    private String text = "";
    private State s = new State();
    private State kept = null;
    private final int[] sorts = {-1, -1, -1, -1, -1, -1};
    private final long[][] tapes = new long[6][0];

    // ---- forms and values

    static int form(String field) {
        if (field.isEmpty()) return 0;
        if (field.matches("-?[0-9]{1,6}")) return 1;
        if (field.matches("-?[0-9]{1,6}\\.[0-9]{1,3}")) return 2;
        return date(field) == null ? 4 : 3;
    }

    private static LocalDate date(String field) {
        String day = field;
        if (field.matches("[0-9]{2}/[0-9]{2}/[0-9]{4}")) {
            String[] parts = field.split("/");
            day = parts[2] + "-" + parts[1] + "-" + parts[0];
        }
        if (!day.matches("(19|20)[0-9]{2}-[0-9]{2}-[0-9]{2}")) return null;
        try {
            return LocalDate.parse(day);
        } catch (DateTimeException none) {
            return null;
        }
    }

    private static boolean canBe(int form, int type) {
        return List.of("1234", "124", "24", "34", "4").get(form).contains("" + type);
    }

    private static Long value(String field, int type) {
        if (field.isEmpty()) return null;
        if (type == 1) return Long.valueOf(field);
        if (type == 2) return new BigDecimal(field).movePointRight(3).longValueExact();
        if (type == 3) return ChronoUnit.DAYS.between(LocalDate.of(2000, 1, 1), date(field));
        BigInteger word = BigInteger.ZERO;
        for (char sign : field.toCharArray()) {
            word = word.multiply(BigInteger.valueOf(257)).add(BigInteger.valueOf(sign));
        }
        return word.longValue();
    }

    private static String shown(String field, int type) {
        if (field.isEmpty() || type == 4) return field;
        if (type == 1) return "" + Integer.parseInt(field);
        if (type == 2) return new BigDecimal(field).setScale(3).toPlainString();
        return date(field).toString();
    }

    private static String[] fields(String line) {
        return line.split(",", -1);
    }

    // ---- what would be imported

    private int guess(int column, int sample) {
        int best = 4;
        int most = 0;
        for (int form = 1; form <= 4; form++) {
            int found = votes(column, form, sample);
            if (found > 0 && found >= most) {
                most = found;
                best = form;
            }
        }
        return best;
    }

    private int votes(int column, int form, int sample) {
        int found = 0;
        for (String line : s.lines.subList(0, Math.min(sample, s.lines.size()))) {
            String[] fields = fields(line);
            if (column < fields.length && form(fields[column]) == form) found++;
        }
        return found;
    }

    private int[] types(int sample) {
        int[] types = new int[5];
        for (int c = 0; c < s.names.size(); c++) {
            types[c] = s.told[c] != 0 ? s.told[c] : guess(c, sample);
        }
        return types;
    }

    private int type(int column) {
        return s.settled[column] != 0 ? s.settled[column] : types(s.sample)[column];
    }

    private List<Outcome> outcomes(int mark, int[] types) {
        List<Outcome> outcomes = new ArrayList<>();
        int rows = 0;
        for (int n = 0; n < mark; n++) {
            Outcome fault = fault(fields(s.lines.get(n)), types, outcomes);
            outcomes.add(fault != null ? fault : new Outcome(rows++, -5, -5, -5));
        }
        return outcomes;
    }

    private Outcome fault(String[] fields, int[] types, List<Outcome> before) {
        if (fields.length < s.names.size()) return new Outcome(-5, 1, -5, -5);
        if (fields.length > s.names.size()) return new Outcome(-5, 2, -5, -5);
        for (int c = 0; c < fields.length; c++) {
            int form = form(fields[c]);
            if (!canBe(form, types[c])) return new Outcome(-5, 3, 10 + c, 20 + form);
        }
        if (s.key == -1) return null;
        Long value = value(fields[s.key], types[s.key]);
        if (value == null) return new Outcome(-5, 4, -5, -5);
        for (int n = 0; n < before.size(); n++) {
            if (before.get(n).row() < 0) continue;
            Long earlier = value(fields(s.lines.get(n))[s.key], types[s.key]);
            if (Objects.equals(earlier, value)) return new Outcome(-5, 5, 30 + n, -5);
        }
        return null;
    }

    private List<Outcome> now() {
        return outcomes(s.mark, s.settled);
    }

    private static int faulty(List<Outcome> outcomes) {
        return (int) outcomes.stream().filter(o -> o.fault() != -5).count();
    }

    private static int rows(List<Outcome> outcomes) {
        return outcomes.size() - faulty(outcomes);
    }

    /** The text of a ROW's FIELD, or null if there is no such one. */
    private String rowField(int row, int column) {
        if (!isColumn(column) || row < 0) return null;
        List<Outcome> now = now();
        for (int n = 0; n < now.size(); n++) {
            if (now.get(n).row() == row) return fields(s.lines.get(n))[column];
        }
        return null;
    }

    private List<Long> valuesOf(int column) {
        List<Long> values = new ArrayList<>();
        for (int row = 0; row < rows(now()); row++) {
            Long value = value(rowField(row, column), s.settled[column]);
            if (value != null) values.add(value);
        }
        return values;
    }

    private boolean isColumn(int column) {
        return column >= 0 && column < s.names.size();
    }

    private boolean isLine(int line) {
        return line >= 0 && line < s.lines.size();
    }

    // ---- head, lines

    int feed(int sign) {
        if (sign < 0 || sign > 127) return -2;
        if (text.length() == 60) return -4;
        text += (char) sign;
        return text.length();
    }

    int head() {
        String given = text;
        text = "";
        List<String> names = new ArrayList<>();
        int place = 0;
        while (true) {
            String name = given.substring(place).replaceFirst("[^a-z][\\s\\S]*", "");
            name = name.substring(0, Math.min(4, name.length()));
            if (name.isEmpty() || names.contains(name)) return -10 - place;
            names.add(name);
            place += name.length();
            if (place == given.length()) break;
            if (given.charAt(place) != ',' || names.size() == 5) return -10 - place;
            place++;
        }
        State next = new State();
        next.sample = s.sample;
        next.names = names;
        s = next;
        return names.size();
    }

    int line() {
        if (s.names.isEmpty()) return -3;
        if (s.lines.size() == 24) return -4;
        String given = text;
        text = "";
        for (int n = 1; n <= given.length(); n++) {
            String last = given.substring(given.lastIndexOf(',', n - 1) + 1, n);
            if (!last.matches("[ -+\\--~]{0,12}")) return -10 - (n - 1);
        }
        s.lines.add(given);
        return s.lines.size() - 1;
    }

    int sample(int n) {
        if (n < 1 || n > 24) return -2;
        int before = s.sample;
        s.sample = n;
        return before;
    }

    int type(int column, int type) {
        if (!isColumn(column)) return -1;
        if (type < 0 || type > 4) return -2;
        int before = s.told[column];
        s.told[column] = type;
        return before;
    }

    int key(int column) {
        if (column != -1 && !isColumn(column)) return -1;
        if (s.mark > 0) return -3;
        int before = told(4);
        s.key = column;
        return before;
    }

    int column(int column, int what) {
        if (!isColumn(column) || what < 0 || what > 4) return -1;
        int guess = guess(column, s.sample);
        int size = s.names.get(column).length();
        return new int[] {type(column), guess, s.told[column], s.settled[column], size}[what];
    }

    int of(int line, int what) {
        if (!isLine(line) || what < 0) return -1;
        String[] fields = fields(s.lines.get(line));
        if (what == 0) return fields.length;
        if (what == 1) return line < s.mark ? 1 : 0;
        if (what == 2) return line < s.mark ? now().get(line).row() : -5;
        return what - 3 < fields.length ? form(fields[what - 3]) : -5;
    }

    int votes(int column, int form) {
        if (!isColumn(column) || form < 0 || form > 4) return -1;
        return votes(column, form, s.sample);
    }

    // ---- importing

    int run(int n) {
        if (n < 0 || n > 24) return -2;
        int imported = Math.min(n, s.lines.size() - s.mark);
        if (s.mark == 0 && imported > 0) s.settled = types(s.sample);
        s.mark += imported;
        return imported;
    }

    int reset() {
        int before = s.mark;
        s.mark = 0;
        s.settled = new int[5];
        return before;
    }

    int fault(int line, int k) {
        if (!isLine(line) || k < 0) return -1;
        if (line >= s.mark || k > 2) return -5;
        Outcome outcome = now().get(line);
        return k == 0 ? outcome.fault() : k == 1 ? outcome.cause() : outcome.deeper();
    }

    int told(int what) {
        switch (what) {
            case 0: return s.mark;
            case 1: return rows(now());
            case 2: return faulty(now());
            case 3: return s.names.size();
            case 4: return s.key == -1 ? -5 : s.key;
            case 5: return s.sample;
            case 6: return (int) now().stream().filter(o -> o.fault() == 3).count();
            case 7: return (int) now().stream().filter(o -> o.fault() == 5).count();
            default: return -1;
        }
    }

    long value(int row, int column) {
        String field = rowField(row, column);
        Long value = field == null ? null : value(field, s.settled[column]);
        return value == null ? NO : value;
    }

    int shown(int row, int column, int i) {
        String field = rowField(row, column);
        if (field == null) return -1;
        String shown = shown(field, s.settled[column]);
        return i >= 0 && i < shown.length() ? shown.charAt(i) : -1;
    }

    long feature(int column, int what) {
        if (!isColumn(column) || what < 0 || what > 4) return NO;
        List<Long> values = valuesOf(column);
        switch (what) {
            case 0: return values.size();
            case 1: return values.stream().min(Long::compare).orElse(NO);
            case 2: return values.stream().max(Long::compare).orElse(NO);
            case 3: return new HashSet<>(values).size();
            default: return rows(now()) - values.size();
        }
    }

    // ---- what would be

    int would(int column, int type) {
        if (!isColumn(column)) return -1;
        if (type < 1 || type > 4) return -2;
        int[] types = types(s.sample);
        types[column] = type;
        return faulty(outcomes(s.lines.size(), types));
    }

    int need(int column, int type) {
        if (!isColumn(column)) return -1;
        if (type < 1 || type > 4) return -2;
        for (int n = 1; n <= 24; n++) {
            if (guess(column, n) == type) return n;
        }
        return -5;
    }

    int see(int line, boolean isFault) {
        return told(s.seen, line, isFault ? 1 : 0, 6, isLine(line) ? 0 : -1);
    }

    int fits(int what) {
        if (what < 0 || what > 1) return -1;
        List<Integer> fitting = new ArrayList<>();
        for (int n = 1; n <= 24; n++) {
            List<Outcome> outcomes = outcomes(s.lines.size(), types(n));
            if (s.seen.stream().allMatch(o -> (outcomes.get(o[0]).fault() > 0) == (o[1] == 1))) {
                fitting.add(n);
            }
        }
        if (what == 0) return fitting.size();
        return fitting.isEmpty() ? -5 : fitting.get(0);
    }

    long odds(int part) {
        return part(faulty(now()), s.mark, part);
    }

    long mean(int column, int part) {
        if (!isColumn(column) || type(column) == 4) return NO;
        List<Long> values = valuesOf(column);
        return part(values.stream().mapToLong(Long::longValue).sum(), values.size(), part);
    }

    private static long part(long above, int below, int part) {
        if (below == 0 || part < 0 || part > 1) return NO;
        BigInteger common = BigInteger.valueOf(above).gcd(BigInteger.valueOf(below));
        return (part == 0 ? above : below) / common.longValue();
    }

    // ---- plans, books

    private static int told(List<int[]> rows, int first, int second, int limit, int refusal) {
        if (first == -1) {
            rows.clear();
            return 0;
        }
        if (refusal != 0) return refusal;
        if (rows.size() == limit) return -4;
        rows.add(new int[] {first, second});
        return rows.size();
    }

    int plan(int what, int n) {
        int refusal = 0;
        if (what < 0 || what > 2 || (what == 1 && n != -1 && !isColumn(n))) {
            refusal = -1;
        } else if (what == 0 && (n < 0 || n > 24)) {
            refusal = -2;
        }
        return told(s.plan, what, n, 8, refusal);
    }

    int ends(int what) {
        if (what < 0 || what > 1) return -1;
        int told = endsAs(what, false);
        return told == endsAs(what, true) ? told : UNCLEAR;
    }

    /** ENDS, where a PLAN's KEY counts when a LINE is IMPORTED, or is refused as key() refuses it. */
    private int endsAs(int what, boolean isKeyRefused) {
        State before = s;
        s = before.copy();
        for (int[] row : before.plan) {
            if (row[0] == 0) run(row[1]);
            if (row[0] == 1 && !(isKeyRefused && s.mark > 0)) s.key = row[1];
            if (row[0] == 2) reset();
        }
        int answer = what == 0 ? rows(now()) : faulty(now());
        s = before;
        return answer;
    }

    int book(int column, int type) {
        int refusal = !isColumn(column) ? -1 : type < 1 || type > 4 ? -2 : 0;
        return told(s.book, column, type, 8, refusal);
    }

    int looked() {
        for (int i = 0; i < s.book.size(); i++) {
            if (type(s.book.get(i)[0]) != s.book.get(i)[1]) return i;
        }
        return -5;
    }

    // ---- judging, the image, tapes

    int judge(int column, int tape, int i) {
        if (!isColumn(column) || !isTape(tape)) return -1;
        if (sorts[tape] != -1 && sorts[tape] != 3) return -12;
        int looked = 0;
        for (long value : valuesOf(column)) {
            long place = (long) i + looked;
            if (i < 0 || place >= tapes[tape].length) return 100 + looked;
            if (tapes[tape][(int) place] != value) return looked;
            looked++;
        }
        return -5;
    }

    int image() {
        kept = s.copy();
        return s.lines.size();
    }

    int undo() {
        if (kept == null) return -3;
        s = kept.copy();
        return s.lines.size();
    }

    int taken(int row, int column, int sort) {
        if (sort < 0 || sort > 4) return -2;
        String field = rowField(row, column);
        if (field == null || field.isEmpty()) return -11;
        int type = s.settled[column];
        return sort == type || (sort == 0 && type < 4) ? type : -12;
    }

    int count(int what) {
        if (what < 0 || what > 4) return -2;
        return new int[] {s.lines.size(), s.seen.size(), s.plan.size(), s.book.size(),
            text.length()}[what];
    }

    private static boolean isTape(int tape) {
        return tape >= 0 && tape < 6;
    }

    int tape(int tape, int sort, int n) {
        if (!isTape(tape)) return -1;
        if (sort < -1 || sort > 4 || (sort >= 0 && n > 60)) return -2;
        if (sort >= 0 && n < 0) return -14;
        sorts[tape] = sort;
        tapes[tape] = new long[sort < 0 ? 0 : n];
        return 1;
    }

    int item(int tape, int i, long v) {
        if (!isTape(tape)) return -1;
        if (sorts[tape] == -1) return -11;
        if (i < 0 || i >= tapes[tape].length) return -13;
        long[] cut = {(byte) v, (short) v, (int) v, v, v == 0 ? 0 : 1};
        tapes[tape][i] = cut[sorts[tape]];
        return 1;
    }

    long read(int tape, int i) {
        return isTape(tape) && i >= 0 && i < tapes[tape].length ? tapes[tape][i] : NO;
    }

    int shift(int tape, int i, int other, int j, int n) {
        if (!isTape(tape) || !isTape(other)) return -1;
        if (sorts[tape] == -1 || sorts[other] == -1) return -11;
        if (sorts[tape] != sorts[other]) return -12;
        if (n < 0 || i < 0 || j < 0) return -13;
        if ((long) i + n > tapes[tape].length || (long) j + n > tapes[other].length) return -13;
        long[] moved = Arrays.copyOfRange(tapes[tape], i, i + n);
        for (int k = 0; k < n; k++) tapes[other][j + k] = moved[k];
        return n;
    }
}
