/** Promises 11 to 17: importing, faults and causes, values, how they are shown, features. */
public final class ImportTest {
    // Two words of unlike bytes with the same VALUE, and one whose VALUE is NO's number.
    private static final String TWIN = "alakqaaqkala", OTHER_TWIN = "cavaaooaavac";
    private static final String LEAST_WORD = "dlyigqP+2%\\H";

    public static void main(String[] args) {
        run();
        settling();
        reset();
        faults();
        faultOrder();
        keyFaults();
        keyByValue();
        told();
        values();
        dates();
        words();
        shownNumbers();
        shownDatesAndWords();
        shownRefusals();
        features();
        Due.end();
    }

    private static void run() {
        FeatureImport x = Given.table("a", "1", "2", "3", "4", "5");
        Due.is("run(-1)", x.run(-1), -2);
        Due.is("run(25)", x.run(25), -2);
        Due.is("run(0)", x.run(0), 0);
        Due.is("told(0)", x.told(0), 0);
        Due.is("run(2)", x.run(2), 2);
        Due.is("told(0)", x.told(0), 2);
        Due.is("told(1)", x.told(1), 2);
        Due.is("value(1, 0)", x.value(1, 0), 2);
        Due.is("value(2, 0)", x.value(2, 0), Due.NO);
        Due.is("run(24)", x.run(24), 3);
        Due.is("run(24)", x.run(24), 0);
        Due.is("told(0)", x.told(0), 5);
        Given.lines(x, "6");
        Due.is("run(24)", x.run(24), 1);
        Due.is("value(5, 0)", x.value(5, 0), 6);
    }

    private static void settling() {
        FeatureImport x = Given.table("a,b", "1,x");
        Due.is("run(0)", x.run(0), 0);
        Due.is("column(0, 3)", x.column(0, 3), 0);
        x.type(1, 4);
        Due.is("run(1)", x.run(1), 1);
        Due.is("column(0, 3)", x.column(0, 3), 1);
        Due.is("column(1, 3)", x.column(1, 3), 4);
        Given.lines(x, "y,y", "z,z");
        Due.is("column(0, 1)", x.column(0, 1), 4);
        Due.is("column(0, 0)", x.column(0, 0), 1);
        Due.is("run(2)", x.run(2), 2);
        Due.is("told(2)", x.told(2), 2);
        Due.is("reset()", x.reset(), 3);
        Due.is("column(0, 0)", x.column(0, 0), 4);
        Due.is("run(24)", x.run(24), 3);
        Due.is("told(2)", x.told(2), 0);
        FeatureImport y = Given.table("a");
        Due.is("run without lines", y.run(24), 0);
        Due.is("nothing settled", y.column(0, 3), 0);
        Given.lines(y, "1,2", "1");
        Due.is("run(1)", y.run(1), 1);
        Due.is("settled by a line with a fault, too", y.column(0, 3), 1);
    }

    private static void reset() {
        FeatureImport x = Given.table("a", "1", "x", "1");
        Due.is("reset()", x.reset(), 0);
        x.key(0);
        x.type(0, 1);
        x.run(24);
        Due.is("told(2)", x.told(2), 2);
        Due.is("reset()", x.reset(), 3);
        Due.is("told(0)", x.told(0), 0);
        Due.is("told(1)", x.told(1), 0);
        Due.is("told(2)", x.told(2), 0);
        Due.is("told(4)", x.told(4), 0);
        Due.is("told(6)", x.told(6), 0);
        Due.is("told(7)", x.told(7), 0);
        Due.is("column(0, 2)", x.column(0, 2), 1);
        Due.is("column(0, 3)", x.column(0, 3), 0);
        Due.is("fault(1, 0)", x.fault(1, 0), -5);
        Due.is("value(0, 0)", x.value(0, 0), Due.NO);
        Due.is("count(0)", x.count(0), 3);
        Due.is("reset()", x.reset(), 0);
    }

    private static void faults() {
        FeatureImport x = Given.table("a,b", "1,2", "1", "1,2,3", "x,y", "1,2.5", "1,10/10/2010", "2,");
        x.type(0, 1);
        x.type(1, 1);
        x.run(5);
        faultIs(x, 0, -5, -5, -5);
        faultIs(x, 1, 1, -5, -5);
        faultIs(x, 2, 2, -5, -5);
        faultIs(x, 3, 3, 10, 24);
        faultIs(x, 4, 3, 11, 22);
        faultIs(x, 5, -5, -5, -5);
        x.run(2);
        faultIs(x, 5, 3, 11, 23);
        faultIs(x, 6, -5, -5, -5);
        Due.is("fault(3, 3)", x.fault(3, 3), -5);
        Due.is("fault(3, MAX)", x.fault(3, Integer.MAX_VALUE), -5);
        Due.is("fault(3, -1)", x.fault(3, -1), -1);
        Due.is("fault(7, 0)", x.fault(7, 0), -1);
        Due.is("fault(-1, 0)", x.fault(-1, 0), -1);
        Due.is("told(1)", x.told(1), 2);
        Due.is("of(6, 2)", x.of(6, 2), 1);
    }

    private static void faultIs(FeatureImport x, int line, int fault, int cause, int deeper) {
        Due.is("fault(" + line + ", 0)", x.fault(line, 0), fault);
        Due.is("fault(" + line + ", 1)", x.fault(line, 1), cause);
        Due.is("fault(" + line + ", 2)", x.fault(line, 2), deeper);
    }

    private static void faultOrder() {
        FeatureImport x = Given.table("a,b,c", ",1.5,x", "1,2,x", "1,2", "x,,,", "3,x,x", "1,1,1", "4,,y");
        x.type(0, 1);
        x.type(1, 1);
        x.key(0);
        x.run(24);
        faultIs(x, 0, 3, 11, 22);
        faultIs(x, 1, -5, -5, -5);
        faultIs(x, 2, 1, -5, -5);
        faultIs(x, 3, 2, -5, -5);
        faultIs(x, 4, 3, 11, 24);
        faultIs(x, 5, 5, 31, -5);
        faultIs(x, 6, -5, -5, -5);
        FeatureImport y = Given.table("a", "1", "1.5", "2020-01-01", "x", "");
        typeTakes(y, 1, "10001");
        typeTakes(y, 2, "11001");
        typeTakes(y, 3, "00101");
        typeTakes(y, 4, "11111");
    }

    private static void typeTakes(FeatureImport x, int type, String rows) {
        x.reset();
        x.type(0, type);
        x.run(24);
        for (int line = 0; line < rows.length(); line++) {
            int due = rows.charAt(line) == '1' ? -5 : 3;
            Due.is("type " + type + ", fault(" + line + ", 0)", x.fault(line, 0), due);
        }
    }

    private static void keyFaults() {
        FeatureImport x = Given.table("a,k", "1,x", "2,", "3,x", "z,y", "5,y", "6,y", "7,x", "8,");
        x.type(0, 1);
        x.key(1);
        x.run(24);
        faultIs(x, 0, -5, -5, -5);
        faultIs(x, 1, 4, -5, -5);
        faultIs(x, 2, 5, 30, -5);
        faultIs(x, 3, 3, 10, 24);
        faultIs(x, 4, -5, -5, -5);
        faultIs(x, 5, 5, 34, -5);
        faultIs(x, 6, 5, 30, -5);
        faultIs(x, 7, 4, -5, -5);
        Due.is("told(1)", x.told(1), 2);
        Due.is("value(1, 0)", x.value(1, 0), 5);
        Due.is("of(4, 2)", x.of(4, 2), 1);
        Due.is("reset()", x.reset(), 8);
        x.key(-1);
        x.run(24);
        Due.is("told(2) without a key", x.told(2), 1);
        FeatureImport y = Given.table("k", "0");
        for (int i = 1; i < 24; i++) Given.lines(y, i == 23 ? "22" : "" + i);
        y.key(0);
        y.run(24);
        faultIs(y, 23, 5, 52, -5);
    }

    private static void keyByValue() {
        FeatureImport x = Given.table("k", "1", "01", "-0", "0", "1.0", "1.000", "1.001");
        x.key(0);
        x.type(0, 2);
        x.run(24);
        faultIs(x, 1, 5, 30, -5);
        faultIs(x, 2, -5, -5, -5);
        faultIs(x, 3, 5, 32, -5);
        faultIs(x, 4, 5, 30, -5);
        faultIs(x, 5, 5, 30, -5);
        faultIs(x, 6, -5, -5, -5);
        x.reset();
        x.type(0, 4);
        x.run(24);
        Due.is("by words none is twice", x.told(7), 0);
        FeatureImport y = Given.table("k", "10/02/2003", "2003-02-10", "2003-10-02");
        y.key(0);
        y.run(24);
        faultIs(y, 1, 5, 30, -5);
        faultIs(y, 2, -5, -5, -5);
        FeatureImport z = Given.table("k", TWIN, OTHER_TWIN, LEAST_WORD, LEAST_WORD);
        z.key(0);
        z.run(24);
        faultIs(z, 1, 5, 30, -5);
        faultIs(z, 2, -5, -5, -5);
        faultIs(z, 3, 5, 32, -5);
    }

    private static void told() {
        FeatureImport x = Given.table("a,b", "1,x", "y,x", "1,x", "2", "1,y", "z,z", ",x", "9,x");
        x.type(0, 1);
        x.key(0);
        x.sample(6);
        x.run(7);
        Due.is("told(0)", x.told(0), 7);
        Due.is("told(1)", x.told(1), 1);
        Due.is("told(2)", x.told(2), 6);
        Due.is("told(3)", x.told(3), 2);
        Due.is("told(4)", x.told(4), 0);
        Due.is("told(5)", x.told(5), 6);
        Due.is("told(6)", x.told(6), 2);
        Due.is("told(7)", x.told(7), 2);
        Due.is("told(8)", x.told(8), -1);
        Due.is("told(-1)", x.told(-1), -1);
    }

    private static void values() {
        FeatureImport x = Given.table("a,b,c", "-007,1.5,", "12,-0.05,x", "x,y,z", ",3,q", "123456,-123456.789,1");
        x.type(0, 1);
        x.type(1, 2);
        x.type(2, 4);
        x.run(24);
        Due.is("told(1)", x.told(1), 4);
        Due.is("value(0, 0)", x.value(0, 0), -7);
        Due.is("value(1, 0)", x.value(1, 0), 12);
        Due.is("value(2, 0)", x.value(2, 0), Due.NO);
        Due.is("value(3, 0)", x.value(3, 0), 123456);
        Due.is("value(0, 1)", x.value(0, 1), 1500);
        Due.is("value(1, 1)", x.value(1, 1), -50);
        Due.is("value(2, 1)", x.value(2, 1), 3000);
        Due.is("value(3, 1)", x.value(3, 1), -123456789);
        Due.is("value(0, 2)", x.value(0, 2), Due.NO);
        Due.is("value(3, 2)", x.value(3, 2), 49);
        Due.is("value(4, 0)", x.value(4, 0), Due.NO);
        Due.is("value(-1, 0)", x.value(-1, 0), Due.NO);
        Due.is("value(0, 3)", x.value(0, 3), Due.NO);
        Due.is("value(0, -1)", x.value(0, -1), Due.NO);
    }

    private static void dates() {
        FeatureImport x = Given.table("a", "01/01/2000", "1999-12-31", "29/02/2000", "2000-03-01",
            "2001-01-01", "1900-01-01", "2099-12-31", "1900-03-01", "2024-12-31", "28/02/1904");
        x.run(24);
        long[] due = {0, -1, 59, 60, 366, -36524, 36524, -36465, 9131, -35006};
        for (int i = 0; i < due.length; i++) Due.is("value(" + i + ", 0)", x.value(i, 0), due[i]);
    }

    private static void words() {
        FeatureImport x = Given.table("a", "ab", " ", "~~~~~~~~~~~~", LEAST_WORD, TWIN, OTHER_TWIN);
        x.run(24);
        Due.is("value(0, 0)", x.value(0, 0), 25027);
        Due.is("value(1, 0)", x.value(1, 0), 32);
        long wrapped = 0;
        for (int i = 0; i < 12; i++) wrapped = wrapped * 257 + 126;
        Due.is("value(2, 0)", x.value(2, 0), wrapped);
        Due.is("value(3, 0)", x.value(3, 0), Due.NO);
        Due.is("value(4, 0)", x.value(4, 0), 5698085831416978902L);
        Due.is("value(5, 0)", x.value(5, 0), 5698085831416978902L);
        Due.is("taken(3, 0, 4)", x.taken(3, 0, 4), 4);
        Due.is("feature(0, 0)", x.feature(0, 0), 6);
        Due.is("feature(0, 1)", x.feature(0, 1), Long.MIN_VALUE);
        Due.is("feature(0, 3)", x.feature(0, 3), 5);
        Given.shows(x, 3, 0, LEAST_WORD);
        Given.shows(x, 4, 0, TWIN);
        Given.shows(x, 5, 0, OTHER_TWIN);
    }

    private static void shownNumbers() {
        FeatureImport x = Given.table("a,b", "007,007", "-0,-0", "-12,-0.5", "000,1", "123456,123456.7",
            "-100,-0.000", "9,-0.001", "10,10.010");
        x.type(0, 1);
        x.type(1, 2);
        x.run(24);
        String[] ints = {"7", "0", "-12", "0", "123456", "-100", "9", "10"};
        String[] decimals = {"7.000", "0.000", "-0.500", "1.000", "123456.700", "0.000", "-0.001", "10.010"};
        for (int row = 0; row < ints.length; row++) {
            Given.shows(x, row, 0, ints[row]);
            Given.shows(x, row, 1, decimals[row]);
        }
    }

    private static void shownDatesAndWords() {
        FeatureImport x = Given.table("a,b", "01/02/2003,007", "1999-12-31,-0.50", ",", "09/10/2011, a b~");
        x.type(1, 4);
        x.run(24);
        Given.shows(x, 0, 0, "2003-02-01");
        Given.shows(x, 1, 0, "1999-12-31");
        Given.shows(x, 2, 0, "");
        Given.shows(x, 3, 0, "2011-10-09");
        Given.shows(x, 0, 1, "007");
        Given.shows(x, 1, 1, "-0.50");
        Given.shows(x, 2, 1, "");
        Given.shows(x, 3, 1, " a b~");
    }

    private static void shownRefusals() {
        FeatureImport x = Given.table("a,b", "12,x", ",y", "5");
        x.run(24);
        Due.is("shown(0, 0, 1)", x.shown(0, 0, 1), '2');
        Due.is("shown(0, 0, 2)", x.shown(0, 0, 2), -1);
        Due.is("shown(0, 0, -1)", x.shown(0, 0, -1), -1);
        Due.is("shown(0, 0, MIN)", x.shown(0, 0, Integer.MIN_VALUE), -1);
        Due.is("shown(0, 0, MAX)", x.shown(0, 0, Integer.MAX_VALUE), -1);
        Due.is("shown(1, 0, 0)", x.shown(1, 0, 0), -1);
        Due.is("shown(2, 0, 0)", x.shown(2, 0, 0), -1);
        Due.is("shown(-1, 0, 0)", x.shown(-1, 0, 0), -1);
        Due.is("shown(0, 2, 0)", x.shown(0, 2, 0), -1);
        Due.is("shown(0, -1, 0)", x.shown(0, -1, 0), -1);
    }

    private static void features() {
        FeatureImport x = Given.table("a,b,c", "5,,", "-3,1.5,", ",x,", "5,1.50,", ",-2,", "7,0.001,", "z,1,");
        x.type(0, 1);
        x.type(1, 2);
        Due.is("no rows, feature(0, 0)", x.feature(0, 0), 0);
        Due.is("no rows, feature(0, 1)", x.feature(0, 1), Due.NO);
        Due.is("no rows, feature(0, 2)", x.feature(0, 2), Due.NO);
        Due.is("no rows, feature(0, 3)", x.feature(0, 3), 0);
        Due.is("no rows, feature(0, 4)", x.feature(0, 4), 0);
        x.run(24);
        Due.is("told(1)", x.told(1), 5);
        featuresAre(x, 0, 4, -3, 7, 3, 1);
        featuresAre(x, 1, 4, -2000, 1500, 3, 1);
        featuresAre(x, 2, 0, Due.NO, Due.NO, 0, 5);
        Due.is("feature(0, 5)", x.feature(0, 5), Due.NO);
        Due.is("feature(0, -1)", x.feature(0, -1), Due.NO);
        Due.is("feature(3, 0)", x.feature(3, 0), Due.NO);
        Due.is("feature(-1, 0)", x.feature(-1, 0), Due.NO);
    }

    private static void featuresAre(FeatureImport x, int column, long... due) {
        for (int what = 0; what < due.length; what++) {
            Due.is("feature(" + column + ", " + what + ")", x.feature(column, what), due[what]);
        }
    }
}
