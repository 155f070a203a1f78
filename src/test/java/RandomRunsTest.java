import java.util.ArrayList;
import java.util.List;
import java.util.Random;

/** Long runs of calls by fixed seeds, each answer compared with the Model's. */
public final class RandomRunsTest {
    private static final int RUNS = 1200, CALLS = 512;
    private static final String[] FIELDS = {"", "", "1", "2", "3", "-4", "01", "-0", "0", "123456", "1.5",
        "1.50", "1.0", "-0.05", "2.125", "1.2345", "x", "y", "zz", "a b", "-", "1.", "1234567",
        "01/02/2003", "2003-02-01", "1999-12-31", "29/02/2000", "29/02/1900", "2100-01-01",
        "31/04/2010", "alakqaaqkala", "cavaaooaavac", "dlyigqP+2%\\H", "abcdefghijklm"};
    private static final String[] HEADS = {"a", "a,b", "a,b", "ab,c", "k,day,x", "a,b,c", "a,b,c,d,e",
        "abcd,abc,ab,a", "", "a,a", "abcde", "a,b,", "a,1", "a,b,c,d,e,f", "ab,abcd,abcde"};
    private static final String[] SHORT_FIELDS = {"1", "1", "2", "01", "-3", "", "x", "y", "1.5", "1.0"};
    private static final int[] FAR = {Integer.MIN_VALUE, Integer.MAX_VALUE, -1, -2, 24, 25, 60, 61};

    private final Random random;
    private final int seed;
    private final FeatureImport x = new FeatureImport();
    private final Model model = new Model();
    private final List<String> log = new ArrayList<>();
    private int columns = 1;

    private RandomRunsTest(int seed) {
        this.seed = seed;
        this.random = new Random(seed);
    }

    public static void main(String[] args) {
        for (int seed = 0; seed < RUNS; seed++) new RandomRunsTest(seed).go();
        Due.end();
    }

    private void go() {
        // Some runs fill all 24 LINES first, some ask first of all, most begin with a HEAD.
        boolean isRight = seed % 4 == 1 ? sayCrowd() : seed % 8 == 2 || sayHead();
        while (isRight && log.size() < CALLS) {
            int kind = random.nextInt(12);
            isRight = kind < 3 && seed % 4 != 1 ? sayLine()
                : kind == 3 && random.nextInt(40) == 0 ? sayHead()
                : askOne();
        }
    }

    private boolean same(String call, long got, long want) {
        log.add(call + " -> " + want);
        if (got == want || want == Model.UNCLEAR) return true;
        Due.fail("seed " + seed + ", call " + log.size() + ": " + call + " answered " + got + ", due is " + want);
        for (String line : log.subList(Math.max(0, log.size() - 30), log.size())) System.out.println("  " + line);
        return false;
    }

    private boolean say(String text) {
        for (int i = 0; i < text.length() && log.size() < CALLS; i++) {
            int sign = text.charAt(i);
            if (!same("feed(" + sign + ")", x.feed(sign), model.feed(sign))) return false;
        }
        return true;
    }

    private boolean sayHead() {
        if (!say(HEADS[random.nextInt(HEADS.length)])) return false;
        boolean isRight = log.size() >= CALLS || same("head()", x.head(), model.head());
        columns = Math.max(1, model.told(3));
        return isRight;
    }

    private boolean sayLine() {
        int fields = random.nextInt(10) == 0 ? random.nextInt(7) : columns;
        StringBuilder text = new StringBuilder();
        for (int i = 0; i < fields; i++) {
            if (i > 0) text.append(',');
            // Few fields a run, so that some forms win the votes and keys come twice.
            text.append(FIELDS[(seed * 7 + random.nextInt(random.nextInt(4) == 0 ? 34 : 6)) % FIELDS.length]);
        }
        if (random.nextInt(20) == 0) text.append((char) random.nextInt(128));
        return say(text.toString()) && (log.size() >= CALLS || same("line()", x.line(), model.line()));
    }

    private boolean sayCrowd() {
        if (!say("a") || !same("head()", x.head(), model.head())) return false;
        int lines = 20 + random.nextInt(6);
        for (int n = 0; n < lines; n++) {
            if (!say(SHORT_FIELDS[random.nextInt(seed % 3 == 0 ? 10 : 7)])) return false;
            if (!same("line()", x.line(), model.line())) return false;
        }
        return true;
    }

    private int column() {
        return random.nextInt(12) == 0 ? far() : random.nextInt(columns);
    }

    private int upTo(int n) {
        return random.nextInt(12) == 0 ? far() : random.nextInt(n);
    }

    private int far() {
        return FAR[random.nextInt(FAR.length)];
    }

    private boolean askOne() {
        return random.nextInt(4) == 0 ? askTape() : random.nextBoolean() ? askImport() : askElse();
    }

    private boolean askImport() {
        int c = column();
        int n = upTo(6);
        int line = upTo(Math.max(10, model.count(0) + 1));
        int sample = upTo(model.count(0) + 2);
        switch (random.nextInt(15)) {
            case 0: return same("sample " + sample, x.sample(sample), model.sample(sample));
            case 1: return same("type " + c + " " + n, x.type(c, n), model.type(c, n));
            case 2: return same("key " + c, x.key(c), model.key(c));
            case 3: return same("column " + c + " " + n, x.column(c, n), model.column(c, n));
            case 4: return same("of " + line + " " + n, x.of(line, n), model.of(line, n));
            case 5: return same("votes " + c + " " + n, x.votes(c, n), model.votes(c, n));
            case 6: return same("run " + n, x.run(n), model.run(n));
            case 7: return same("run 24", x.run(24), model.run(24));
            case 8: return random.nextInt(3) > 0 || same("reset", x.reset(), model.reset());
            case 9: return same("fault " + line + " " + n, x.fault(line, n), model.fault(line, n));
            case 10: return same("told " + line, x.told(line), model.told(line));
            case 11: return same("value " + line + " " + c, x.value(line, c), model.value(line, c));
            case 12: return sayShown(line, c);
            case 13: return same("feature " + c + " " + n, x.feature(c, n), model.feature(c, n));
            default: return same("taken " + line + " " + c + " " + n, x.taken(line, c, n), model.taken(line, c, n));
        }
    }

    private boolean sayShown(int row, int column) {
        int i = upTo(12);
        return same("shown " + row + " " + column + " " + i, x.shown(row, column, i), model.shown(row, column, i));
    }

    private boolean askElse() {
        int c = column();
        int n = upTo(6);
        int line = upTo(Math.max(8, model.count(0)));
        boolean isFault = random.nextBoolean();
        switch (random.nextInt(13)) {
            case 0: return same("would " + c + " " + n, x.would(c, n), model.would(c, n));
            case 1: return same("need " + c + " " + n, x.need(c, n), model.need(c, n));
            case 2: return same("see " + line + " " + isFault, x.see(line, isFault), model.see(line, isFault));
            case 3: return same("fits " + n % 3, x.fits(n % 3), model.fits(n % 3));
            case 4: return same("odds " + n % 3, x.odds(n % 3), model.odds(n % 3));
            case 5: return same("mean " + c + " " + n % 3, x.mean(c, n % 3), model.mean(c, n % 3));
            case 6: return same("plan " + n % 3 + " " + line, x.plan(n % 3, line), model.plan(n % 3, line));
            case 7: return same("ends " + n % 3, x.ends(n % 3), model.ends(n % 3));
            case 8: return same("book " + c + " " + n, x.book(c, n), model.book(c, n));
            case 9: return same("looked", x.looked(), model.looked());
            case 10: return same("image", x.image(), model.image());
            case 11: return random.nextInt(3) > 0 || same("undo", x.undo(), model.undo());
            default: return same("count " + n, x.count(n), model.count(n));
        }
    }

    private boolean askTape() {
        int tape = upTo(3);
        int other = upTo(3);
        int sort = random.nextInt(3) == 0 ? upTo(6) : 3;
        int i = upTo(5);
        int j = upTo(5);
        int n = upTo(6);
        int c = column();
        long v = random.nextBoolean() ? model.value(upTo(4), c) : random.nextLong() >> random.nextInt(64);
        switch (random.nextInt(6)) {
            case 0: return same("tape " + tape + " " + sort + " " + n, x.tape(tape, sort, n), model.tape(tape, sort, n));
            case 1: return same("read " + tape + " " + i, x.read(tape, i), model.read(tape, i));
            case 2:
                String call = "shift " + tape + " " + i + " " + other + " " + j + " " + n;
                return same(call, x.shift(tape, i, other, j, n), model.shift(tape, i, other, j, n));
            case 3: return same("judge " + c + " " + tape + " " + i, x.judge(c, tape, i), model.judge(c, tape, i));
            default: return same("item " + tape + " " + i + " " + v, x.item(tape, i, v), model.item(tape, i, v));
        }
    }
}
