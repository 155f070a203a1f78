/** Term 3 and promises 28 to 36: the edges of judging, the image, tapes, each by a test of its own. */
public final class TapeEdgesTest {
    private static final int MIN = Integer.MIN_VALUE, MAX = Integer.MAX_VALUE;
    private static final String LEAST_WORD = "dlyigqP+2%\\H";

    public static void main(String[] args) {
        tapesHoldNothingAtFirst();
        judgedFirstOtherwise();
        judgedOfNoValues();
        judgedBeyondTheEnd();
        judgedBelowTheStart();
        judgedByATapeOfNothing();
        judgedByAnotherSort();
        judgeNumbers();
        imageOfNothing();
        imageOfAFullObject();
        undoWithoutImage();
        undoBehindHead();
        undoTwice();
        takenByEverySort();
        takenNothing();
        takenBadAhead();
        countNumbers();
        countAtTheLimits();
        tapeSizes();
        tapeSorts();
        tapeOfNothing();
        tapeAllZero();
        itemLowestBits();
        itemPlaces();
        itemNothing();
        readPlaces();
        shiftPlaces();
        shiftOfNone();
        shiftAsTheyAllWere();
        shiftSorts();
        shiftTapes();
        Due.end();
    }

    private static FeatureImport longs(FeatureImport x, int tape, long... items) {
        Due.is("tape(" + tape + ", 3, n)", x.tape(tape, 3, items.length), 1);
        for (int i = 0; i < items.length; i++) Due.is("item", x.item(tape, i, items[i]), 1);
        return x;
    }

    private static FeatureImport withRows(String... lines) {
        FeatureImport x = Given.table("a,b", lines);
        x.type(0, 1);
        x.type(1, 4);
        x.run(24);
        return x;
    }

    private static void tapeIs(FeatureImport x, int tape, long... items) {
        for (int i = 0; i < items.length; i++) Due.is("read(" + tape + ", " + i + ")", x.read(tape, i), items[i]);
        Due.is("read(" + tape + ", " + items.length + ")", x.read(tape, items.length), Due.NO);
    }

    private static void tapesHoldNothingAtFirst() {
        Due.sentence("TAPES 0 .. 5 hold nothing (at first)");
        FeatureImport x = Given.nothing();
        for (int tape = 0; tape <= 5; tape++) {
            Due.is("item(" + tape + ", 0, 1)", x.item(tape, 0, 1), -11);
            Due.is("read(" + tape + ", 0)", x.read(tape, 0), Due.NO);
            Due.is("shift(" + tape + ")", x.shift(tape, 0, tape, 0, 0), -11);
        }
    }

    private static void judgedFirstOtherwise() {
        Due.sentence("JUDGED: the first that is otherwise (its number among these); -5: none");
        FeatureImport x = withRows("5,", ",x", "x,x", "-6,", "7,");
        longs(x, 0, 5, -6, 7, 5, -6, 8, 5, 0, 7, 1, -6, 7);
        Due.is("none", x.judge(0, 0, 0), -5);
        Due.is("the last", x.judge(0, 0, 3), 2);
        Due.is("one between", x.judge(0, 0, 6), 1);
        Due.is("the first", x.judge(0, 0, 9), 0);
        FeatureImport y = withRows("," + LEAST_WORD, ",a");
        longs(y, 5, Due.NO, 'a');
        Due.is("a WORD's VALUE may be NO's number", y.judge(1, 5, 0), -5);
        FeatureImport z = Given.table("a");
        for (int n = 0; n < 24; n++) Given.lines(z, "" + n);
        z.run(24);
        z.tape(0, 3, 24);
        for (int n = 0; n < 24; n++) z.item(0, n, n);
        Due.is("24 of them", z.judge(0, 0, 0), -5);
        z.item(0, 23, 0);
        Due.is("the last of 24", z.judge(0, 0, 0), 23);
    }

    private static void judgedOfNoValues() {
        Due.sentence("JUDGED: -5: there are none (wherever the place is, also if the TAPE holds nothing)");
        FeatureImport x = withRows("5,", "6,");
        longs(x, 0, 0, 0);
        x.tape(1, 3, 0);
        for (int tape = 0; tape <= 2; tape++) {
            for (int i : new int[] {0, 1, 2, 59, 60, -1, MIN, MAX}) {
                Due.is("judge(1, " + tape + ", " + i + ")", x.judge(1, tape, i), -5);
            }
        }
        x.reset();
        for (int i : new int[] {0, 2, -1, MIN, MAX}) Due.is("no ROWS, place " + i, x.judge(0, 0, i), -5);
    }

    private static void judgedBeyondTheEnd() {
        Due.sentence("JUDGED: 100 and how many were looked at, if the row ends ahead of that");
        FeatureImport x = withRows("5,", "6,", "7,");
        longs(x, 0, 5, 6);
        Due.is("two of three", x.judge(0, 0, 0), 102);
        longs(x, 0, 9, 5);
        Due.is("one of three", x.judge(0, 0, 1), 101);
        Due.is("otherwise ahead of the end", x.judge(0, 0, 0), 0);
        for (int i : new int[] {2, 3, 59, 60, MAX}) Due.is("place " + i, x.judge(0, 0, i), 100);
        x.tape(0, 3, 0);
        Due.is("a row of none", x.judge(0, 0, 0), 100);
        x.tape(1, 3, 60);
        x.item(1, 59, 5);
        Due.is("the last of sixty", x.judge(0, 1, 59), 101);
        Due.is("behind it", x.judge(0, 1, 60), 100);
    }

    private static void judgedBelowTheStart() {
        Due.sentence("JUDGED: 100 (or the place is below 0)");
        FeatureImport x = withRows("0,", "0,");
        longs(x, 0, 0, 0, 0);
        for (int i : new int[] {-1, -2, MIN}) Due.is("place " + i, x.judge(0, 0, i), 100);
    }

    private static void judgedByATapeOfNothing() {
        Due.sentence("JUDGED: 100 (or the TAPE holds nothing)");
        FeatureImport x = withRows("0,");
        for (int i : new int[] {0, 1, -1, MIN, MAX}) Due.is("place " + i, x.judge(0, 3, i), 100);
        longs(x, 3, 0);
        Due.is("a row of longs", x.judge(0, 3, 0), -5);
        x.tape(3, -1, 0);
        Due.is("nothing again", x.judge(0, 3, 0), 100);
    }

    private static void judgedByAnotherSort() {
        Due.sentence("judge: CAST: it is no row of longs");
        FeatureImport x = withRows("0,");
        for (int sort = 0; sort <= 4; sort++) {
            x.tape(0, sort, 3);
            int due = sort == 3 ? -5 : -12;
            Due.is("sort " + sort, x.judge(0, 0, 0), due);
            Due.is("sort " + sort + ", a place below 0", x.judge(0, 0, -1), sort == 3 ? 100 : -12);
            Due.is("sort " + sort + ", no VALUES", x.judge(1, 0, 0), due);
        }
    }

    private static void judgeNumbers() {
        Due.sentence("judge: NONE: column, tape");
        FeatureImport x = withRows("0,");
        x.tape(0, 3, 1);
        x.tape(1, 0, 1);
        for (int c : new int[] {2, 5, -1, MIN, MAX}) {
            Due.is("COLUMN " + c, x.judge(c, 0, 0), -1);
            Due.is("NONE is named ahead of CAST", x.judge(c, 1, 0), -1);
        }
        for (int tape : new int[] {6, -1, MIN, MAX}) Due.is("TAPE " + tape, x.judge(0, tape, 0), -1);
        Due.is("without a head", Given.nothing().judge(0, 0, 0), -1);
    }

    private static void imageOfNothing() {
        Due.sentence("image of an object without COLUMNS");
        FeatureImport x = Given.nothing();
        Due.is("image()", x.image(), 0);
        Due.is("sample(3)", x.sample(3), 8);
        Due.is("head()", Given.head(x, "a"), 1);
        Due.is("undo()", x.undo(), 0);
        Due.is("told(3)", x.told(3), 0);
        Due.is("told(5)", x.told(5), 8);
        Due.is("line()", x.line(), -3);
    }

    private static void imageOfAFullObject() {
        Due.sentence("THE IMAGE: 24 LINES, SEEN, PLAN and BOOK full");
        FeatureImport x = Given.table("a,b");
        for (int n = 0; n < 24; n++) Given.lines(x, n + "," + n % 5);
        for (int i = 0; i < 6; i++) x.see(23 - i, false);
        for (int i = 0; i < 8; i++) x.plan(0, 2);
        for (int i = 0; i < 8; i++) x.book(i % 2, 1);
        x.key(1);
        x.run(23);
        Due.is("image()", x.image(), 24);
        Due.is("head()", Given.head(x, "c"), 1);
        Given.lines(x, "x");
        x.run(24);
        Due.is("undo()", x.undo(), 24);
        for (int what = 0; what < 4; what++) Due.is("count", x.count(what), new int[] {24, 6, 8, 8}[what]);
        Due.is("of(23, 3)", x.of(23, 3), 1);
        Due.is("of(22, 1)", x.of(22, 1), 1);
        Due.is("of(23, 1)", x.of(23, 1), 0);
        Due.is("told(1)", x.told(1), 5);
        Due.is("fault(22, 1)", x.fault(22, 1), 32);
        Due.is("fault(4, 0)", x.fault(4, 0), -5);
        Due.is("value(4, 0)", x.value(4, 0), 4);
        Due.is("ends(1)", x.ends(1), 19);
        Due.is("fits(0)", x.fits(0), 0);
        Due.is("looked()", x.looked(), -5);
        Due.is("line()", x.line(), -4);
    }

    private static void undoWithoutImage() {
        Due.sentence("undo: STATE: there is none");
        FeatureImport x = Given.table("a", "1");
        Due.is("undo()", x.undo(), -3);
        Due.is("count(0)", x.count(0), 1);
    }

    private static void undoBehindHead() {
        Due.sentence("undo: all is as THE IMAGE, behind another head, too");
        FeatureImport x = Given.table("a,b,c", "1,2,3", "x,y,z");
        x.type(2, 4);
        x.run(1);
        Due.is("image()", x.image(), 2);
        Due.is("head()", Given.head(x, "d,e,f,g,h"), 5);
        Given.lines(x, "1,2,3,4,5");
        x.run(1);
        Due.is("undo()", x.undo(), 2);
        Due.is("told(3)", x.told(3), 3);
        Due.is("column(3, 0)", x.column(3, 0), -1);
        Due.is("column(2, 3)", x.column(2, 3), 4);
        Due.is("value(0, 2)", x.value(0, 2), '3');
        Due.is("run(24)", x.run(24), 1);
        Due.is("fault(1, 1)", x.fault(1, 1), -5);
    }

    private static void undoTwice() {
        Due.sentence("undo: THE IMAGE stays, until another is taken");
        FeatureImport x = Given.table("a", "1");
        Due.is("image()", x.image(), 1);
        Given.lines(x, "2");
        Due.is("undo()", x.undo(), 1);
        Given.lines(x, "x,x", "3");
        Due.is("undo()", x.undo(), 1);
        Due.is("undo()", x.undo(), 1);
        Given.lines(x, "7");
        Due.is("image()", x.image(), 2);
        x.run(24);
        Due.is("undo()", x.undo(), 2);
        Due.is("told(0)", x.told(0), 0);
        x.run(24);
        Due.is("value(1, 0)", x.value(1, 0), 7);
    }

    private static void takenByEverySort() {
        Due.sentence("taken: sort 0 any NUMBER, 1 INT, 2 DECIMAL, 3 DATE, 4 WORD: its TYPE; CAST");
        String[] fields = {"1", "1.5", "2020-01-01", "x"};
        for (int type = 1; type <= 4; type++) {
            FeatureImport x = Given.table("a", fields[type - 1]);
            x.run(1);
            Due.is("TYPE " + type + ", any NUMBER", x.taken(0, 0, 0), type == 4 ? -12 : type);
            for (int sort = 1; sort <= 4; sort++) {
                Due.is("TYPE " + type + ", sort " + sort, x.taken(0, 0, sort), sort == type ? type : -12);
            }
        }
        FeatureImport y = Given.table("a", "5", "5.5");
        y.run(24);
        Due.is("an INT in a DECIMAL's COLUMN", y.taken(0, 0, 1), -12);
        Due.is("an INT in a DECIMAL's COLUMN", y.taken(0, 0, 2), 2);
    }

    private static void takenNothing() {
        Due.sentence("taken: NOTHING: no such ROW, COLUMN, or no VALUE there");
        FeatureImport x = withRows("1,", ",x", "x,x");
        for (int row : new int[] {2, 24, -1, -5, MIN, MAX}) Due.is("ROW " + row, x.taken(row, 0, 1), -11);
        for (int c : new int[] {2, 5, -1, MIN, MAX}) Due.is("COLUMN " + c, x.taken(0, c, 1), -11);
        for (int sort = 0; sort <= 4; sort++) {
            Due.is("no VALUE, ahead of CAST", x.taken(0, 1, sort), -11);
            Due.is("no VALUE, ahead of CAST", x.taken(1, 0, sort), -11);
        }
        FeatureImport y = withRows("1," + LEAST_WORD);
        Due.is("a WORD's VALUE that is NO's number is one", y.taken(0, 1, 4), 4);
        y.reset();
        Due.is("no ROWS", y.taken(0, 0, 1), -11);
    }

    private static void takenBadAhead() {
        Due.sentence("taken: BAD: sort");
        FeatureImport x = withRows("1,x");
        for (int sort : new int[] {-1, 5, MIN, MAX}) {
            Due.is("sort " + sort, x.taken(0, 0, sort), -2);
            Due.is("BAD is named ahead of NOTHING", x.taken(1, 0, sort), -2);
            Due.is("BAD is named ahead of NOTHING", x.taken(0, 2, sort), -2);
        }
    }

    private static void countNumbers() {
        Due.sentence("count: BAD");
        FeatureImport x = Given.nothing();
        for (int what : new int[] {5, 6, -1, MIN, MAX}) Due.is("count(" + what + ")", x.count(what), -2);
    }

    private static void countAtTheLimits() {
        Due.sentence("count: none, and as many as there can be");
        FeatureImport x = Given.table("a");
        for (int what = 0; what <= 4; what++) Due.is("count(" + what + ")", x.count(what), 0);
        for (int n = 0; n < 25; n++) Given.line(x, "1");
        for (int i = 0; i < 7; i++) x.see(0, false);
        for (int i = 0; i < 9; i++) x.plan(2, 0);
        for (int i = 0; i < 9; i++) x.book(0, 1);
        for (int i = 0; i < 61; i++) x.feed('a');
        int[] due = {24, 6, 8, 8, 60};
        for (int what = 0; what <= 4; what++) Due.is("count(" + what + ")", x.count(what), due[what]);
    }

    private static void tapeSizes() {
        Due.sentence("tape: n (0 .. 60); BAD: n above 60; SIZE: below 0");
        FeatureImport x = Given.nothing();
        for (int sort = 0; sort <= 4; sort++) {
            for (int n : new int[] {0, 1, 60}) {
                Due.is("tape(0, " + sort + ", " + n + ")", x.tape(0, sort, n), 1);
                Due.is("the last place", x.read(0, n - 1), n == 0 ? Due.NO : 0);
                Due.is("behind it", x.read(0, n), Due.NO);
            }
            for (int n : new int[] {61, MAX}) Due.is("tape(0, " + sort + ", " + n + ")", x.tape(0, sort, n), -2);
            for (int n : new int[] {-1, MIN}) Due.is("tape(0, " + sort + ", " + n + ")", x.tape(0, sort, n), -14);
            Due.is("as it was", x.read(0, 59), 0);
        }
    }

    private static void tapeSorts() {
        Due.sentence("tape: NONE: tape; BAD: sort");
        FeatureImport x = Given.nothing();
        for (int tape : new int[] {6, -1, MIN, MAX}) {
            Due.is("tape(" + tape + ", 0, 1)", x.tape(tape, 0, 1), -1);
            Due.is("NONE is named ahead of BAD", x.tape(tape, 5, 61), -1);
            Due.is("NONE is named ahead of SIZE", x.tape(tape, 0, -1), -1);
            Due.is("NONE, though it would hold nothing", x.tape(tape, -1, 0), -1);
        }
        for (int sort : new int[] {5, -2, MIN, MAX}) {
            Due.is("tape(0, " + sort + ", 1)", x.tape(0, sort, 1), -2);
            Due.is("BAD is named ahead of SIZE", x.tape(0, sort, -1), -2);
        }
        Due.is("item(0, 0, 1)", x.item(0, 0, 1), -11);
    }

    private static void tapeOfNothing() {
        Due.sentence("tape: holds nothing (sort -1: n does not matter): 1");
        FeatureImport x = Given.nothing();
        for (int n : new int[] {0, 60, 61, -1, MIN, MAX}) {
            Due.is("tape(5, 2, 3)", x.tape(5, 2, 3), 1);
            Due.is("read(5, 0)", x.read(5, 0), 0);
            Due.is("tape(5, -1, " + n + ")", x.tape(5, -1, n), 1);
            Due.is("read(5, 0)", x.read(5, 0), Due.NO);
            Due.is("item(5, 0, 1)", x.item(5, 0, 1), -11);
        }
    }

    private static void tapeAllZero() {
        Due.sentence("tape: all 0");
        FeatureImport x = longs(Given.nothing(), 0, 1, 2, 3);
        Due.is("a smaller one", x.tape(0, 3, 1), 1);
        tapeIs(x, 0, 0);
        Due.is("a greater one again", x.tape(0, 3, 3), 1);
        tapeIs(x, 0, 0, 0, 0);
        x.item(0, 2, 9);
        Due.is("by way of nothing", x.tape(0, -1, 0), 1);
        Due.is("tape(0, 0, 3)", x.tape(0, 0, 3), 1);
        tapeIs(x, 0, 0, 0, 0);
    }

    private static void itemLowestBits() {
        Due.sentence("item: its lowest bits, as many as an item has; booleans: whether v is not 0");
        long[] given = {0, 1, -1, 127, 128, -128, -129, 255, 256, 32767, 32768, -32768, -32769, 65535, 65536,
            MAX, MAX + 1L, MIN, MIN - 1L, 1L << 32, Long.MAX_VALUE, Long.MIN_VALUE};
        for (int sort = 0; sort <= 4; sort++) {
            FeatureImport x = Given.nothing();
            x.tape(1, sort, 3);
            for (long v : given) {
                long[] due = {(byte) v, (short) v, (int) v, v, v != 0 ? 1 : 0};
                Due.is("item(1, 1, " + v + ")", x.item(1, 1, v), 1);
                Due.is("sort " + sort + ", " + v, x.read(1, 1), due[sort]);
            }
            Due.is("read(1, 0)", x.read(1, 0), 0);
            Due.is("read(1, 2)", x.read(1, 2), 0);
        }
    }

    private static void itemPlaces() {
        Due.sentence("item: PLACE");
        FeatureImport x = Given.nothing();
        x.tape(0, 2, 3);
        x.tape(1, 2, 60);
        x.tape(2, 2, 0);
        for (int i : new int[] {3, 59, 60, -1, MIN, MAX}) Due.is("item(0, " + i + ", 1)", x.item(0, i, 1), -13);
        for (int i : new int[] {60, -1, MIN, MAX}) Due.is("item(1, " + i + ", 1)", x.item(1, i, 1), -13);
        Due.is("a row of none", x.item(2, 0, 1), -13);
        tapeIs(x, 0, 0, 0, 0);
        Due.is("the last", x.item(0, 2, 1), 1);
        Due.is("the last of sixty", x.item(1, 59, 1), 1);
        tapeIs(x, 0, 0, 0, 1);
        Due.is("read(1, 59)", x.read(1, 59), 1);
    }

    private static void itemNothing() {
        Due.sentence("item: NONE; NOTHING");
        FeatureImport x = Given.nothing();
        for (int tape : new int[] {6, -1, MIN, MAX}) Due.is("item(" + tape + ", 0, 1)", x.item(tape, 0, 1), -1);
        for (int i : new int[] {0, -1, 60, MIN, MAX}) Due.is("NOTHING is named ahead of PLACE", x.item(0, i, 1), -11);
    }

    private static void readPlaces() {
        Due.sentence("read: NO: no such TAPE, nothing there, no such place");
        FeatureImport x = longs(Given.nothing(), 0, 5, 6);
        for (int tape : new int[] {6, -1, MIN, MAX}) Due.is("read(" + tape + ", 0)", x.read(tape, 0), Due.NO);
        for (int i : new int[] {2, 59, 60, -1, MIN, MAX}) Due.is("read(0, " + i + ")", x.read(0, i), Due.NO);
        Due.is("read(1, 0)", x.read(1, 0), Due.NO);
        tapeIs(x, 0, 5, 6);
    }

    private static void shiftPlaces() {
        Due.sentence("shift: PLACE: n, i or j is below 0, or beyond either's end");
        FeatureImport x = longs(Given.nothing(), 0, 1, 2, 3);
        longs(x, 1, 7, 8, 9, 10, 11);
        for (int wrong : new int[] {-1, MIN, MAX, 6}) {
            Due.is("i " + wrong, x.shift(0, wrong, 1, 0, 1), -13);
            Due.is("i " + wrong + ", n 0", x.shift(0, wrong, 1, 0, 0), -13);
            Due.is("j " + wrong, x.shift(0, 0, 1, wrong, 1), -13);
            Due.is("j " + wrong + ", n 0", x.shift(0, 0, 1, wrong, 0), -13);
            Due.is("n " + wrong, x.shift(0, 0, 1, 0, wrong), -13);
            Due.is("n " + wrong + " from 1 on", x.shift(0, 1, 1, 1, wrong), -13);
            Due.is("all " + wrong, x.shift(0, wrong, 1, wrong, wrong), -13);
        }
        Due.is("beyond the first's end", x.shift(0, 0, 1, 0, 4), -13);
        Due.is("beyond the first's end", x.shift(0, 3, 1, 0, 1), -13);
        Due.is("beyond the other's end", x.shift(0, 0, 1, 3, 3), -13);
        Due.is("beyond the other's end", x.shift(1, 0, 0, 0, 4), -13);
        tapeIs(x, 0, 1, 2, 3);
        tapeIs(x, 1, 7, 8, 9, 10, 11);
        Due.is("up to both ends", x.shift(0, 0, 1, 2, 3), 3);
        tapeIs(x, 1, 7, 8, 1, 2, 3);
        Due.is("all of sixty", sixty(2).shift(2, 0, 3, 0, 60), 60);
        Due.is("more than sixty", sixty(2).shift(2, 0, 3, 0, 61), -13);
    }

    private static FeatureImport sixty(int tape) {
        FeatureImport x = Given.nothing();
        x.tape(tape, 0, 60);
        x.tape(tape + 1, 0, 60);
        return x;
    }

    private static void shiftOfNone() {
        Due.sentence("shift: n 0 items, at the ends, too");
        FeatureImport x = longs(Given.nothing(), 0, 1, 2);
        x.tape(1, 3, 0);
        Due.is("shift(0, 0, 1, 0, 0)", x.shift(0, 0, 1, 0, 0), 0);
        Due.is("at the end", x.shift(0, 2, 1, 0, 0), 0);
        Due.is("behind the end", x.shift(0, 3, 1, 0, 0), -13);
        Due.is("behind the other's end", x.shift(0, 0, 1, 1, 0), -13);
        Due.is("one into none", x.shift(0, 0, 1, 0, 1), -13);
        Due.is("one out of none", x.shift(1, 0, 0, 0, 1), -13);
        Due.is("none into itself", x.shift(1, 0, 1, 0, 0), 0);
        tapeIs(x, 0, 1, 2);
    }

    private static void shiftAsTheyAllWere() {
        Due.sentence("shift: another one (or the same), as they all were before");
        FeatureImport x = longs(Given.nothing(), 0, 1, 2, 3, 4, 5);
        Due.is("one place on", x.shift(0, 0, 0, 1, 4), 4);
        tapeIs(x, 0, 1, 1, 2, 3, 4);
        Due.is("one place back", x.shift(0, 1, 0, 0, 4), 4);
        tapeIs(x, 0, 1, 2, 3, 4, 4);
        Due.is("far on", x.shift(0, 0, 0, 3, 2), 2);
        tapeIs(x, 0, 1, 2, 3, 1, 2);
        Due.is("onto itself", x.shift(0, 0, 0, 0, 5), 5);
        tapeIs(x, 0, 1, 2, 3, 1, 2);
    }

    private static void shiftSorts() {
        Due.sentence("shift: CAST: of unlike sorts");
        FeatureImport x = Given.nothing();
        for (int sort = 0; sort <= 4; sort++) {
            for (int other = 0; other <= 4; other++) {
                x.tape(0, sort, 2);
                x.tape(1, other, 2);
                Due.is("sorts " + sort + ", " + other, x.shift(0, 0, 1, 0, 2), sort == other ? 2 : -12);
                int due = sort == other ? -13 : -12;
                Due.is("CAST is named ahead of PLACE", x.shift(0, 0, 1, 0, 3), due);
                Due.is("CAST is named ahead of PLACE", x.shift(0, 0, 1, 0, -1), due);
            }
        }
    }

    private static void shiftTapes() {
        Due.sentence("shift: NONE: tapes; NOTHING");
        FeatureImport x = longs(Given.nothing(), 0, 1);
        for (int tape : new int[] {6, -1, MIN, MAX}) {
            Due.is("NONE, the first", x.shift(tape, 0, 0, 0, 1), -1);
            Due.is("NONE, the other", x.shift(0, 0, tape, 0, 1), -1);
            Due.is("NONE is named ahead of NOTHING", x.shift(1, 0, tape, 0, 1), -1);
            Due.is("NONE is named ahead of NOTHING", x.shift(tape, 0, 1, 0, 1), -1);
        }
        Due.is("NOTHING, the first", x.shift(1, 0, 0, 0, 1), -11);
        Due.is("NOTHING, the other", x.shift(0, 0, 1, 0, 1), -11);
        Due.is("NOTHING, both", x.shift(1, 0, 2, 0, 0), -11);
        Due.is("NOTHING is named ahead of PLACE", x.shift(0, -1, 1, -1, -1), -11);
        tapeIs(x, 0, 1);
    }
}
