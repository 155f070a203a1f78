/** Promises 28 to 36: judging, the image, values taken, counts, tapes. */
public final class JudgeTapesTest {
    public static void main(String[] args) {
        judge();
        judgeNothing();
        image();
        imageHoldsAll();
        imageLeavesTextAndTapes();
        taken();
        count();
        tape();
        item();
        read();
        shift();
        shiftWithin();
        Due.end();
    }

    private static void judge() {
        FeatureImport x = Given.table("a,b", "5,x", ",y", "6,z", "q,x", "7,x");
        x.type(0, 1);
        x.run(24);
        x.tape(0, 3, 6);
        x.item(0, 1, 5);
        x.item(0, 2, 6);
        x.item(0, 3, 7);
        x.item(0, 4, 5);
        x.item(0, 5, 6);
        Due.is("judge(0, 0, 1)", x.judge(0, 0, 1), -5);
        Due.is("judge(0, 0, 0)", x.judge(0, 0, 0), 0);
        Due.is("judge(0, 0, 2)", x.judge(0, 0, 2), 0);
        Due.is("judge(0, 0, 4)", x.judge(0, 0, 4), 102);
        Due.is("judge(0, 0, 6)", x.judge(0, 0, 6), 100);
        Due.is("judge(0, 0, MAX)", x.judge(0, 0, Integer.MAX_VALUE), 100);
        Due.is("judge(0, 0, -1)", x.judge(0, 0, -1), 100);
        Due.is("judge(0, 0, MIN)", x.judge(0, 0, Integer.MIN_VALUE), 100);
        x.item(0, 3, 8);
        Due.is("judge(0, 0, 1)", x.judge(0, 0, 1), 2);
        x.item(0, 2, 9);
        Due.is("judge(0, 0, 1)", x.judge(0, 0, 1), 1);
        Due.is("a tape that holds nothing", x.judge(0, 1, 0), 100);
        for (int sort = 0; sort < 5; sort++) {
            x.tape(2, sort, 9);
            Due.is("sort " + sort, x.judge(0, 2, 0), sort == 3 ? 0 : -12);
        }
        x.tape(3, 3, 0);
        Due.is("a row of no longs", x.judge(0, 3, 0), 100);
        Due.is("judge(2, 0, 0)", x.judge(2, 0, 0), -1);
        Due.is("judge(-1, 0, 0)", x.judge(-1, 0, 0), -1);
        Due.is("judge(0, 6, 0)", x.judge(0, 6, 0), -1);
        Due.is("judge(0, -1, 0)", x.judge(0, -1, 0), -1);
    }

    private static void judgeNothing() {
        FeatureImport x = Given.table("a,b", "5,", "6,");
        x.tape(0, 3, 2);
        Due.is("no rows", x.judge(0, 0, 0), -5);
        x.run(24);
        Due.is("no values", x.judge(1, 0, 0), -5);
        Due.is("no values, no place", x.judge(1, 0, -7), -5);
        Due.is("no values, a place beyond", x.judge(1, 0, 50), -5);
        Due.is("no values, no row", x.judge(1, 1, 0), -5);
        Due.is("no values, no row, no place", x.judge(1, 1, -1), -5);
        x.tape(1, 2, 2);
        Due.is("no values, no longs", x.judge(1, 1, 0), -12);
    }

    private static void image() {
        FeatureImport x = Given.nothing();
        Due.is("undo()", x.undo(), -3);
        Due.is("image()", x.image(), 0);
        Given.head(x, "a");
        Given.lines(x, "1", "2");
        Due.is("undo()", x.undo(), 0);
        Due.is("told(3)", x.told(3), 0);
        Due.is("line()", x.line(), -3);
        Given.head(x, "b,c");
        Given.lines(x, "1,2");
        Due.is("image()", x.image(), 1);
        Given.lines(x, "3,4");
        Due.is("undo()", x.undo(), 1);
        Given.lines(x, "5,x");
        x.run(24);
        Due.is("value(1, 0)", x.value(1, 0), 5);
        Due.is("undo() again", x.undo(), 1);
        Due.is("told(0)", x.told(0), 0);
        Due.is("of(1, 0)", x.of(1, 0), -1);
        Due.is("told(3)", x.told(3), 2);
    }

    private static void imageHoldsAll() {
        FeatureImport x = Given.table("ab,c", "1,x", "2,y", "1,z");
        x.sample(5);
        x.type(0, 2);
        x.key(0);
        x.run(3);
        x.see(1, false);
        x.see(2, false);
        x.plan(2, 0);
        x.book(0, 2);
        Due.is("image()", x.image(), 3);
        Given.head(x, "a,bcd,e");
        Given.lines(x, "z,1,2", "3", "z,z,z", "z,z,1");
        x.sample(2);
        x.type(1, 4);
        x.key(1);
        x.run(4);
        Due.is("fault(2, 1)", x.fault(2, 1), 12);
        x.see(0, true);
        x.plan(0, 3);
        x.plan(0, 4);
        x.book(2, 3);
        x.book(1, 3);
        Due.is("undo()", x.undo(), 3);
        Due.is("column(0, 4)", x.column(0, 4), 2);
        Due.is("column(1, 4)", x.column(1, 4), 1);
        Due.is("column(2, 4)", x.column(2, 4), -1);
        Due.is("told(0)", x.told(0), 3);
        Due.is("told(1)", x.told(1), 2);
        Due.is("told(2)", x.told(2), 1);
        Due.is("told(3)", x.told(3), 2);
        Due.is("told(4)", x.told(4), 0);
        Due.is("told(5)", x.told(5), 5);
        Due.is("told(7)", x.told(7), 1);
        Due.is("column(0, 2)", x.column(0, 2), 2);
        Due.is("column(1, 2)", x.column(1, 2), 0);
        Due.is("column(0, 3)", x.column(0, 3), 2);
        Due.is("column(1, 3)", x.column(1, 3), 4);
        Due.is("value(1, 0)", x.value(1, 0), 2000);
        Due.is("fault(2, 0)", x.fault(2, 0), 5);
        Due.is("fault(2, 1)", x.fault(2, 1), 30);
        Due.is("fault(2, 2)", x.fault(2, 2), -5);
        Due.is("fault(1, 0)", x.fault(1, 0), -5);
        Due.is("of(2, 2)", x.of(2, 2), -5);
        Due.is("of(1, 2)", x.of(1, 2), 1);
        Due.is("count(0)", x.count(0), 3);
        Due.is("count(1)", x.count(1), 2);
        Due.is("count(2)", x.count(2), 1);
        Due.is("count(3)", x.count(3), 1);
        Due.is("fits(0)", x.fits(0), 0);
        Due.is("ends(0)", x.ends(0), 0);
        Due.is("looked()", x.looked(), -5);
    }

    private static void imageLeavesTextAndTapes() {
        FeatureImport x = Given.table("a", "1");
        x.feed('7');
        x.tape(0, 2, 2);
        x.image();
        x.feed('8');
        x.item(0, 0, 5);
        x.tape(1, 1, 1);
        Due.is("undo()", x.undo(), 1);
        Due.is("count(4)", x.count(4), 2);
        Due.is("read(0, 0)", x.read(0, 0), 5);
        Due.is("read(1, 0)", x.read(1, 0), 0);
        Due.is("line()", x.line(), 1);
        x.run(24);
        Due.is("value(1, 0)", x.value(1, 0), 78);
    }

    private static void taken() {
        FeatureImport x = Given.table("a,b,c,d", "1,1.5,2001-02-03,x", ",,,", "1");
        Due.is("taken(0, 0, 0)", x.taken(0, 0, 0), -11);
        x.run(24);
        int[][] due = {{1, 1, -12, -12, -12}, {2, -12, 2, -12, -12}, {3, -12, -12, 3, -12},
            {-12, -12, -12, -12, 4}};
        for (int column = 0; column < 4; column++) {
            for (int sort = 0; sort < 5; sort++) {
                String call = "taken(0, " + column + ", " + sort + ")";
                Due.is(call, x.taken(0, column, sort), due[column][sort]);
            }
        }
        Due.is("no value", x.taken(1, 0, 1), -11);
        Due.is("no value", x.taken(1, 3, 0), -11);
        Due.is("no row", x.taken(2, 0, 1), -11);
        Due.is("no row", x.taken(-1, 0, 1), -11);
        Due.is("no column", x.taken(0, 4, 1), -11);
        Due.is("no column", x.taken(0, -1, 1), -11);
        Due.is("no sort", x.taken(0, 0, 5), -2);
        Due.is("no sort", x.taken(0, 0, -1), -2);
        Due.is("no sort, no row", x.taken(9, 9, 5), -2);
        x.reset();
        x.type(0, 4);
        x.run(1);
        Due.is("by its type", x.taken(0, 0, 4), 4);
        Due.is("by its type", x.taken(0, 0, 1), -12);
    }

    private static void count() {
        FeatureImport x = Given.table("a", "1", "2", "3", "4", "5");
        x.see(0, true);
        x.see(0, true);
        x.plan(0, 1);
        x.plan(0, 1);
        x.plan(0, 1);
        x.book(0, 1);
        x.feed('a');
        x.feed('a');
        x.feed('a');
        x.feed('a');
        Due.is("count(0)", x.count(0), 5);
        Due.is("count(1)", x.count(1), 2);
        Due.is("count(2)", x.count(2), 3);
        Due.is("count(3)", x.count(3), 1);
        Due.is("count(4)", x.count(4), 4);
        Due.is("count(5)", x.count(5), -2);
        Due.is("count(-1)", x.count(-1), -2);
    }

    private static void tape() {
        FeatureImport x = Given.nothing();
        Due.is("tape(6, 0, 1)", x.tape(6, 0, 1), -1);
        Due.is("tape(-1, 0, 1)", x.tape(-1, 0, 1), -1);
        Due.is("tape(6, 9, 99)", x.tape(6, 9, 99), -1);
        Due.is("tape(0, 5, 1)", x.tape(0, 5, 1), -2);
        Due.is("tape(0, -2, 1)", x.tape(0, -2, 1), -2);
        Due.is("tape(0, 5, -1)", x.tape(0, 5, -1), -2);
        Due.is("tape(0, 0, 61)", x.tape(0, 0, 61), -2);
        Due.is("tape(0, 0, -1)", x.tape(0, 0, -1), -14);
        Due.is("tape(0, 0, MIN)", x.tape(0, 0, Integer.MIN_VALUE), -14);
        Due.is("read(0, 0)", x.read(0, 0), Due.NO);
        Due.is("tape(0, 3, 60)", x.tape(0, 3, 60), 1);
        Due.is("read(0, 59)", x.read(0, 59), 0);
        Due.is("read(0, 60)", x.read(0, 60), Due.NO);
        Due.is("item(0, 59, 8)", x.item(0, 59, 8), 1);
        Due.is("tape(0, 0, 61)", x.tape(0, 0, 61), -2);
        Due.is("read(0, 59)", x.read(0, 59), 8);
        Due.is("tape(0, 3, 60)", x.tape(0, 3, 60), 1);
        Due.is("all 0", x.read(0, 59), 0);
        Due.is("tape(0, 1, 0)", x.tape(0, 1, 0), 1);
        Due.is("item(0, 0, 1)", x.item(0, 0, 1), -13);
        Due.is("tape(0, -1, 99)", x.tape(0, -1, 99), 1);
        Due.is("item(0, 0, 1)", x.item(0, 0, 1), -11);
        Due.is("tape(0, -1, -99)", x.tape(0, -1, -99), 1);
        Due.is("tape(5, 4, 1)", x.tape(5, 4, 1), 1);
        Due.is("read(5, 0)", x.read(5, 0), 0);
    }

    private static void item() {
        FeatureImport x = Given.nothing();
        for (int sort = 0; sort < 5; sort++) x.tape(sort, sort, 2);
        itemIs(x, 0, 200, -56);
        itemIs(x, 0, -129, 127);
        itemIs(x, 0, 256, 0);
        itemIs(x, 1, 40000, -25536);
        itemIs(x, 1, 70001, 4465);
        itemIs(x, 2, 3000000000L, -1294967296);
        itemIs(x, 2, 1L << 32, 0);
        itemIs(x, 3, Long.MAX_VALUE, Long.MAX_VALUE);
        itemIs(x, 3, Long.MIN_VALUE, Long.MIN_VALUE);
        itemIs(x, 4, 256, 1);
        itemIs(x, 4, 1L << 40, 1);
        itemIs(x, 4, -1, 1);
        itemIs(x, 4, 0, 0);
        Due.is("item(0, 2, 1)", x.item(0, 2, 1), -13);
        Due.is("item(0, -1, 1)", x.item(0, -1, 1), -13);
        Due.is("item(0, MAX, 1)", x.item(0, Integer.MAX_VALUE, 1), -13);
        Due.is("item(5, 0, 1)", x.item(5, 0, 1), -11);
        Due.is("item(5, -1, 1)", x.item(5, -1, 1), -11);
        Due.is("item(6, 0, 1)", x.item(6, 0, 1), -1);
        Due.is("item(-1, 0, 1)", x.item(-1, 0, 1), -1);
    }

    private static void itemIs(FeatureImport x, int tape, long v, long due) {
        Due.is("item(" + tape + ", 1, " + v + ")", x.item(tape, 1, v), 1);
        Due.is("read(" + tape + ", 1)", x.read(tape, 1), due);
        Due.is("read(" + tape + ", 0)", x.read(tape, 0), 0);
    }

    private static void read() {
        FeatureImport x = Given.nothing();
        x.tape(1, 2, 3);
        x.item(1, 2, -9);
        Due.is("read(1, 2)", x.read(1, 2), -9);
        Due.is("read(1, 3)", x.read(1, 3), Due.NO);
        Due.is("read(1, -1)", x.read(1, -1), Due.NO);
        Due.is("read(0, 0)", x.read(0, 0), Due.NO);
        Due.is("read(6, 0)", x.read(6, 0), Due.NO);
        Due.is("read(-1, 0)", x.read(-1, 0), Due.NO);
    }

    private static void shift() {
        FeatureImport x = Given.nothing();
        x.tape(0, 2, 4);
        x.tape(1, 2, 6);
        x.tape(2, 3, 4);
        for (int i = 0; i < 4; i++) x.item(0, i, i + 1);
        Due.is("shift(0, 1, 1, 2, 3)", x.shift(0, 1, 1, 2, 3), 3);
        tapeIs(x, 1, 0, 0, 2, 3, 4, 0);
        tapeIs(x, 0, 1, 2, 3, 4);
        Due.is("shift(0, 0, 1, 0, 0)", x.shift(0, 0, 1, 0, 0), 0);
        Due.is("at both ends", x.shift(0, 4, 1, 6, 0), 0);
        Due.is("beyond", x.shift(0, 5, 1, 0, 0), -13);
        Due.is("beyond", x.shift(0, 0, 1, 7, 0), -13);
        Due.is("beyond", x.shift(0, 2, 1, 0, 3), -13);
        Due.is("beyond", x.shift(0, 0, 1, 4, 3), -13);
        Due.is("below", x.shift(0, -1, 1, 0, 1), -13);
        Due.is("below", x.shift(0, 0, 1, -1, 1), -13);
        Due.is("below", x.shift(0, 0, 1, 0, -1), -13);
        Due.is("far", x.shift(0, Integer.MAX_VALUE, 1, 0, 1), -13);
        Due.is("far", x.shift(0, 1, 1, Integer.MAX_VALUE, 1), -13);
        Due.is("far", x.shift(0, 1, 1, 1, Integer.MAX_VALUE), -13);
        Due.is("far", x.shift(0, 1, 1, 1, Integer.MIN_VALUE), -13);
        Due.is("unlike sorts", x.shift(0, 0, 2, 0, 1), -12);
        Due.is("unlike sorts, no place", x.shift(0, -1, 2, 0, 1), -12);
        Due.is("nothing", x.shift(0, 0, 3, 0, 1), -11);
        Due.is("nothing", x.shift(3, 0, 0, 0, 1), -11);
        Due.is("nothing, no place", x.shift(3, -1, 0, 0, 1), -11);
        Due.is("no tape", x.shift(6, 0, 0, 0, 1), -1);
        Due.is("no tape", x.shift(0, 0, 6, 0, 1), -1);
        Due.is("no tape, nothing", x.shift(3, 0, -1, 0, 1), -1);
        tapeIs(x, 1, 0, 0, 2, 3, 4, 0);
    }

    private static void shiftWithin() {
        FeatureImport x = Given.nothing();
        for (int sort = 0; sort < 5; sort++) {
            x.tape(0, sort, 5);
            x.item(0, 0, 1);
            x.item(0, 2, 1);
            Due.is("forth", x.shift(0, 0, 0, 1, 4), 4);
            tapeIs(x, 0, 1, 1, 0, 1, 0);
            Due.is("back", x.shift(0, 1, 0, 0, 4), 4);
            tapeIs(x, 0, 1, 0, 1, 0, 0);
            Due.is("in place", x.shift(0, 0, 0, 0, 5), 5);
            tapeIs(x, 0, 1, 0, 1, 0, 0);
        }
    }

    private static void tapeIs(FeatureImport x, int tape, long... items) {
        for (int i = 0; i < items.length; i++) {
            Due.is("read(" + tape + ", " + i + ")", x.read(tape, i), items[i]);
        }
        Due.is("read(" + tape + ", " + items.length + ")", x.read(tape, items.length), Due.NO);
    }
}
