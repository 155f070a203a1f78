import java.time.LocalDate;
import java.time.temporal.ChronoUnit;
import java.util.ArrayList;
import java.util.List;

/** Terms 1 and 2, promises 11 to 17: the edges of importing, each sentence by a test of its own. */
public final class ImportEdgesTest {
    private static final int MIN = Integer.MIN_VALUE, MAX = Integer.MAX_VALUE;
    // A word whose VALUE, wrapped, is NO's number.
    private static final String LEAST_WORD = "dlyigqP+2%\\H";

    public static void main(String[] args) {
        fits();
        settledAsTheFirstLineIs();
        shortLines();
        longLines();
        firstFieldThatDoesNotFit();
        causesOfEveryColumn();
        keyIsEmpty();
        sameValueInAnEarlierRow();
        onlyRowsHaveKeys();
        firstFaultThatHolds();
        rowsAreNumbered();
        numbers();
        everyDay();
        wordsWrap();
        emptyHasNoValue();
        shownOfZero();
        shownWidths();
        shownAtItsEnds();
        runNumbers();
        runAsManyAsThereAre();
        resetAtOnce();
        faultNumbers();
        toldNumbers();
        toldCounts();
        valueNumbers();
        featureOfNoRows();
        featureOfOneRow();
        featureAtTheEnds();
        featureNumbers();
        Due.end();
    }

    private static FeatureImport imported(String head, String types, String... lines) {
        FeatureImport x = Given.table(head, lines);
        for (int c = 0; c < types.length(); c++) x.type(c, types.charAt(c) - '0');
        x.run(24);
        Due.called(types.length() + 1);
        return x;
    }

    private static void faultIs(FeatureImport x, int line, int fault, int cause, int deeper) {
        Due.is("fault(" + line + ", 0)", x.fault(line, 0), fault);
        Due.is("fault(" + line + ", 1)", x.fault(line, 1), cause);
        Due.is("fault(" + line + ", 2)", x.fault(line, 2), deeper);
    }

    private static void fits() {
        Due.sentence("A FIELD FITS a TYPE");
        String[] fields = {"", "1", "1.5", "2020-01-01", "x"};
        String[] takenBy = {"1234", "124", "24", "34", "4"};
        for (int form = 0; form <= 4; form++) {
            for (int type = 1; type <= 4; type++) {
                FeatureImport x = imported("a", "" + type, fields[form]);
                boolean isTaken = takenBy[form].indexOf('0' + type) >= 0;
                Due.is("FORM " + form + " by TYPE " + type, x.fault(0, 0), isTaken ? -5 : 3);
                Due.is("FORM " + form + " by TYPE " + type, x.told(1), isTaken ? 1 : 0);
            }
        }
    }

    private static void settledAsTheFirstLineIs() {
        Due.sentence("as the first LINE is IMPORTED, TYPES are SETTLED");
        FeatureImport x = Given.table("a,b");
        Due.is("run(24) without LINES", x.run(24), 0);
        Due.is("column(0, 3)", x.column(0, 3), 0);
        Given.lines(x, "1,1", "1.5,1", "1.5,1");
        x.sample(1);
        x.type(1, 2);
        Due.is("run(0)", x.run(0), 0);
        Due.is("column(0, 3)", x.column(0, 3), 0);
        Due.is("run(1)", x.run(1), 1);
        Due.is("column(0, 3)", x.column(0, 3), 1);
        Due.is("column(1, 3)", x.column(1, 3), 2);
        x.sample(3);
        x.type(1, 4);
        Due.is("GUESS goes on", x.column(0, 1), 2);
        Due.is("TYPE is SETTLED", x.column(0, 0), 1);
        Due.is("TYPE is SETTLED", x.column(1, 0), 2);
        x.run(24);
        Due.is("told(6)", x.told(6), 2);
        x.reset();
        Due.is("nothing SETTLED", x.column(0, 3), 0);
        Due.is("GUESS", x.column(0, 0), 2);
        Due.is("TOLD", x.column(1, 0), 4);
        x.run(24);
        Due.is("told(6)", x.told(6), 0);
    }

    private static void shortLines() {
        Due.sentence("1 SHORT: fewer FIELDS than COLUMNS");
        FeatureImport x = imported("a,b,c,d,e", "44444", "", "1", "1,2,3,4", ",,,", ",,,,");
        for (int line = 0; line < 4; line++) faultIs(x, line, 1, -5, -5);
        faultIs(x, 4, -5, -5, -5);
        FeatureImport y = imported("a", "4", "");
        Due.is("an empty line has one FIELD", y.fault(0, 0), -5);
    }

    private static void longLines() {
        Due.sentence("2 LONG: more FIELDS than COLUMNS");
        FeatureImport x = imported("a", "4", ",", "1,2", ",".repeat(60), "1");
        for (int line = 0; line < 3; line++) faultIs(x, line, 2, -5, -5);
        faultIs(x, 3, -5, -5, -5);
        FeatureImport y = imported("a,b,c,d,e", "44444", "1,2,3,4,5,6", "1,2,3,4,5");
        faultIs(y, 0, 2, -5, -5);
        faultIs(y, 1, -5, -5, -5);
    }

    private static void firstFieldThatDoesNotFit() {
        Due.sentence("3: a FIELD, the first, doesn't FIT");
        FeatureImport x = imported("a,b,c", "123", "x,y,z", "1,y,z", "1,1,z", "1,1,", "1.5,,2020-01-01", ",2020-01-01,1");
        faultIs(x, 0, 3, 10, 24);
        faultIs(x, 1, 3, 11, 24);
        faultIs(x, 2, 3, 12, 24);
        faultIs(x, 3, -5, -5, -5);
        faultIs(x, 4, 3, 10, 22);
        faultIs(x, 5, 3, 11, 23);
    }

    private static void causesOfEveryColumn() {
        Due.sentence("CAUSE: 10 and the COLUMN, and this has 20 and the FORM as CAUSE");
        for (int c = 0; c < 5; c++) {
            String ahead = ",".repeat(c);
            String behind = ",".repeat(4 - c);
            FeatureImport x = imported("a,b,c,d,e", "33333", ahead + "1" + behind, ahead + "1.5" + behind, ahead + "x" + behind);
            faultIs(x, 0, 3, 10 + c, 21);
            faultIs(x, 1, 3, 10 + c, 22);
            faultIs(x, 2, 3, 10 + c, 24);
            FeatureImport y = imported("a,b,c,d,e", "11111", ahead + "2020-01-01" + behind);
            faultIs(y, 0, 3, 10 + c, 23);
        }
    }

    private static void keyIsEmpty() {
        Due.sentence("4: the FIELD by KEY is EMPTY");
        for (int c = 0; c < 5; c++) {
            FeatureImport x = Given.table("a,b,c,d,e", ",".repeat(c) + "1" + ",".repeat(4 - c), ",,,,");
            x.key(c);
            x.run(24);
            faultIs(x, 0, -5, -5, -5);
            faultIs(x, 1, 4, -5, -5);
        }
    }

    private static void sameValueInAnEarlierRow() {
        Due.sentence("5: the same VALUE as in an earlier ROW (CAUSE: 30 and that LINE)");
        FeatureImport x = Given.table("a");
        x.key(0);
        for (int n = 0; n < 24; n++) Given.lines(x, n == 12 ? "0" : n == 23 ? "22" : "" + n);
        x.run(24);
        faultIs(x, 11, -5, -5, -5);
        faultIs(x, 12, 5, 30, -5);
        faultIs(x, 23, 5, 52, -5);
        Due.is("told(7)", x.told(7), 2);
        FeatureImport y = Given.table("a,b", "1,", "-1,", "-01,", "1,", "1,");
        y.key(0);
        y.run(24);
        faultIs(y, 1, -5, -5, -5);
        faultIs(y, 2, 5, 31, -5);
        faultIs(y, 3, 5, 30, -5);
        faultIs(y, 4, 5, 30, -5);
    }

    private static void onlyRowsHaveKeys() {
        Due.sentence("in an earlier ROW, which a LINE with a FAULT is not");
        FeatureImport x = Given.table("k,b", "7", "7,x,y", "7,z", "7,1", "7,1");
        x.key(0);
        x.type(1, 1);
        x.run(24);
        faultIs(x, 0, 1, -5, -5);
        faultIs(x, 1, 2, -5, -5);
        faultIs(x, 2, 3, 11, 24);
        faultIs(x, 3, -5, -5, -5);
        faultIs(x, 4, 5, 33, -5);
    }

    private static void firstFaultThatHolds() {
        Due.sentence("its FAULT, the first that holds");
        FeatureImport x = Given.table("a,b,k", "1,1,1", "x,1", "x,", "x,1,1,1", "x,,,1", "1,x,", "1,x,1", "1,1,", "1,1,1");
        x.key(2);
        x.type(0, 1);
        x.type(1, 1);
        x.run(24);
        int[] due = {-5, 1, 1, 2, 2, 3, 3, 4, 5};
        for (int line = 0; line < due.length; line++) Due.is("fault(" + line + ", 0)", x.fault(line, 0), due[line]);
        FeatureImport y = Given.table("k,b", "1,", ",x");
        y.key(0);
        y.type(1, 1);
        y.run(24);
        faultIs(y, 1, 3, 11, 24);
    }

    private static void rowsAreNumbered() {
        Due.sentence("Without FAULT it is a ROW; ROWS are numbered as they come");
        FeatureImport x = imported("a", "1", "x", "10", "1,1", "11", "12", "y");
        int[] rows = {-5, 0, -5, 1, 2, -5};
        for (int line = 0; line < rows.length; line++) Due.is("of(" + line + ", 2)", x.of(line, 2), rows[line]);
        for (int row = 0; row < 3; row++) Due.is("value(" + row + ", 0)", x.value(row, 0), 10 + row);
        FeatureImport y = Given.table("a");
        for (int n = 0; n < 24; n++) Given.lines(y, "" + n);
        y.run(24);
        Due.is("of(23, 2)", y.of(23, 2), 23);
        Due.is("value(23, 0)", y.value(23, 0), 23);
        Due.is("value(24, 0)", y.value(24, 0), Due.NO);
    }

    private static void numbers() {
        Due.sentence("VALUE: INT its number; DECIMAL its number times 1000");
        FeatureImport x = imported("i,d", "12", "999999,999999.999", "-999999,-999999.999", "-0,-0", "000001,000001",
            "-000001,-0.001", "1,-999999", "1,0.1", "1,0.01", "1,0.10");
        long[] ints = {999999, -999999, 0, 1, -1};
        long[] decimals = {999999999, -999999999, 0, 1000, -1, -999999000, 100, 10, 100};
        for (int row = 0; row < ints.length; row++) Due.is("INT " + row, x.value(row, 0), ints[row]);
        for (int row = 0; row < decimals.length; row++) Due.is("DECIMAL " + row, x.value(row, 1), decimals[row]);
    }

    private static void everyDay() {
        Due.sentence("DATE how many days it is behind 1 January 2000; SHOWN as year-month-day");
        LocalDate start = LocalDate.of(2000, 1, 1);
        LocalDate day = LocalDate.of(1900, 1, 1);
        while (day.getYear() < 2100) {
            FeatureImport x = Given.table("a,b,c,d,e");
            List<LocalDate> days = new ArrayList<>();
            for (int line = 0; line < 6; line++) {
                List<String> fields = new ArrayList<>();
                for (int c = 0; c < 5; c++) {
                    days.add(day);
                    String dayFirst = String.format("%02d/%02d/%d", day.getDayOfMonth(), day.getMonthValue(), day.getYear());
                    fields.add(days.size() % 2 == 0 ? day.toString() : dayFirst);
                    day = day.plusDays(1);
                }
                // The lines that reach beyond 2099 say an end that there is.
                if (day.getYear() >= 2100) fields.replaceAll(any -> "2099-12-31");
                if (day.getYear() >= 2100) days.subList(days.size() - 5, days.size()).replaceAll(any -> LocalDate.of(2099, 12, 31));
                Given.lines(x, String.join(",", fields));
            }
            x.run(24);
            for (int i = 0; i < days.size(); i++) {
                long due = ChronoUnit.DAYS.between(start, days.get(i));
                Due.is("value of " + days.get(i), x.value(i / 5, i % 5), due);
            }
            Given.shows(x, 0, 0, days.get(0).toString());
            Given.shows(x, 5, 3, days.get(28).toString());
        }
    }

    private static void wordsWrap() {
        Due.sentence("WORD: times 257 what was, and the byte (wrapping as a long)");
        FeatureImport x = imported("a", "4", "~~~~~~~", "~~~~~~~~", "~~~~~~~~~~~~", " ", LEAST_WORD, "0", "-1");
        Due.is("seven bytes", x.value(0, 0), wordOf("~~~~~~~"));
        Due.is("eight bytes", x.value(1, 0), wordOf("~~~~~~~~"));
        Due.is("twelve bytes", x.value(2, 0), wordOf("~~~~~~~~~~~~"));
        Due.is("one blank", x.value(3, 0), 32);
        Due.is("what NO's number is", x.value(4, 0), Due.NO);
        Due.is("a digit is a byte", x.value(5, 0), '0');
        Due.is("a sign is a byte", x.value(6, 0), '-' * 257 + '1');
    }

    private static long wordOf(String text) {
        java.math.BigInteger word = java.math.BigInteger.ZERO;
        for (char sign : text.toCharArray()) {
            word = word.multiply(java.math.BigInteger.valueOf(257)).add(java.math.BigInteger.valueOf(sign));
        }
        return word.longValue();
    }

    private static void emptyHasNoValue() {
        Due.sentence("VALUE: EMPTY: none; SHOWN: none: no sign");
        FeatureImport x = imported("a,b,c,d", "1234", ",,,");
        Due.is("told(1)", x.told(1), 1);
        for (int c = 0; c < 4; c++) {
            Due.is("value(0, " + c + ")", x.value(0, c), Due.NO);
            Due.is("shown(0, " + c + ", 0)", x.shown(0, c, 0), -1);
            Due.is("feature(" + c + ", 4)", x.feature(c, 4), 1);
            Due.is("taken(0, " + c + ", 0)", x.taken(0, c, 0), -11);
        }
    }

    private static void shownOfZero() {
        Due.sentence("SHOWN: - ahead (of a number below 0); no digit 0 ahead but one");
        FeatureImport x = imported("a,b,c", "124", "0,0,0", "-0,-0,-0", "000,0.0,000", "-000000,-0.00,-0.00", "007,007,007",
            "-007,-007.1,-007", "100,-0.1,00");
        String[][] due = {{"0", "0.000", "0"}, {"0", "0.000", "-0"}, {"0", "0.000", "000"}, {"0", "0.000", "-0.00"},
            {"7", "7.000", "007"}, {"-7", "-7.100", "-007"}, {"100", "-0.100", "00"}};
        for (int row = 0; row < due.length; row++) {
            for (int c = 0; c < 3; c++) Given.shows(x, row, c, due[row][c]);
        }
    }

    private static void shownWidths() {
        Due.sentence("SHOWN: DECIMAL (all three digits behind the dot), DATE 4, 2, 2 digits, WORD as it is");
        FeatureImport x = imported("a,b,c", "234", "999999.999,1900-01-01,~~~~~~~~~~~~", "-999999.999,31/12/2099, ",
            "0.001,01/02/2003,01/02/2003", "-0.010,2003-12-31,1.5", "12.3,29/02/2000,-", "999999,2000-02-29,000000000000");
        String[][] due = {{"999999.999", "1900-01-01", "~~~~~~~~~~~~"}, {"-999999.999", "2099-12-31", " "},
            {"0.001", "2003-02-01", "01/02/2003"}, {"-0.010", "2003-12-31", "1.5"}, {"12.300", "2000-02-29", "-"},
            {"999999.000", "2000-02-29", "000000000000"}};
        for (int row = 0; row < due.length; row++) {
            for (int c = 0; c < 3; c++) Given.shows(x, row, c, due[row][c]);
        }
        FeatureImport y = imported("a", "1", "999999", "-999999", "10", "-10", "9");
        String[] ints = {"999999", "-999999", "10", "-10", "9"};
        for (int row = 0; row < ints.length; row++) Given.shows(y, row, 0, ints[row]);
    }

    private static void shownAtItsEnds() {
        Due.sentence("shown: NONE: no such ROW, COLUMN, sign");
        FeatureImport x = imported("a,b", "14", "-12,abcdefghijkl", "x,x");
        Due.is("the first sign", x.shown(0, 0, 0), '-');
        Due.is("the last sign", x.shown(0, 0, 2), '2');
        Due.is("the twelfth sign", x.shown(0, 1, 11), 'l');
        for (int i : new int[] {3, 12, -1, MIN, MAX}) Due.is("sign " + i, x.shown(0, 0, i), -1);
        Due.is("sign 12", x.shown(0, 1, 12), -1);
        for (int row : new int[] {1, 24, -1, -5, MIN, MAX}) Due.is("ROW " + row, x.shown(row, 0, 0), -1);
        for (int c : new int[] {2, 5, -1, MIN, MAX}) Due.is("COLUMN " + c, x.shown(0, c, 0), -1);
    }

    private static void runNumbers() {
        Due.sentence("run: n LINES (0 .. 24), else BAD");
        FeatureImport x = Given.nothing();
        Due.is("without a head", x.run(24), 0);
        Due.is("without a head", x.run(25), -2);
        FeatureImport y = Given.table("a", "1", "2");
        for (int n : new int[] {-1, 25, MIN, MAX}) Due.is("run(" + n + ")", y.run(n), -2);
        Due.is("told(0)", y.told(0), 0);
        Due.is("run(0)", y.run(0), 0);
        Due.is("told(0)", y.told(0), 0);
        FeatureImport z = Given.table("a");
        for (int n = 0; n < 24; n++) Given.lines(z, "1");
        Due.is("run(24)", z.run(24), 24);
        Due.is("told(0)", z.told(0), 24);
        Due.is("told(1)", z.told(1), 24);
        Due.is("run(24)", z.run(24), 0);
        Due.is("run(25)", z.run(25), -2);
    }

    private static void runAsManyAsThereAre() {
        Due.sentence("run: as many as there are: how many were");
        FeatureImport x = Given.table("a", "1", "2", "3");
        Due.is("run(2)", x.run(2), 2);
        Due.is("run(2)", x.run(2), 1);
        Due.is("run(2)", x.run(2), 0);
        Given.lines(x, "4");
        Due.is("run(1)", x.run(1), 1);
        Due.is("told(0)", x.told(0), 4);
        FeatureImport y = Given.table("a", "1", "2");
        Due.is("run(2), exactly", y.run(2), 2);
        FeatureImport z = Given.table("a", "1", "2");
        Due.is("run(3), one more than there are", z.run(3), 2);
    }

    private static void resetAtOnce() {
        Due.sentence("reset: what MARK was");
        FeatureImport x = Given.nothing();
        Due.is("on a new object", x.reset(), 0);
        FeatureImport y = Given.table("a");
        for (int n = 0; n < 24; n++) Given.lines(y, "1");
        Due.is("reset()", y.reset(), 0);
        y.run(24);
        Due.is("reset()", y.reset(), 24);
        Due.is("reset()", y.reset(), 0);
        Due.is("value(0, 0)", y.value(0, 0), Due.NO);
        Due.is("count(0)", y.count(0), 24);
    }

    private static void faultNumbers() {
        Due.sentence("fault: -5: there is none such; NONE: line, k is below 0");
        FeatureImport x = Given.table("a", "1", "x", "1,1");
        Due.is("not IMPORTED", x.fault(2, 0), -5);
        x.type(0, 1);
        x.run(2);
        faultIs(x, 0, -5, -5, -5);
        faultIs(x, 1, 3, 10, 24);
        faultIs(x, 2, -5, -5, -5);
        for (int k : new int[] {3, 4, MAX}) Due.is("fault(1, " + k + ")", x.fault(1, k), -5);
        for (int k : new int[] {-1, MIN}) Due.is("fault(1, " + k + ")", x.fault(1, k), -1);
        Due.is("k below 0, not IMPORTED", x.fault(2, -1), -1);
        for (int line : new int[] {3, 24, -1, -5, MIN, MAX}) Due.is("fault(" + line + ", 0)", x.fault(line, 0), -1);
        x.run(1);
        faultIs(x, 2, 2, -5, -5);
        x.reset();
        faultIs(x, 1, -5, -5, -5);
    }

    private static void toldNumbers() {
        Due.sentence("told: NONE");
        FeatureImport x = Given.table("a", "1");
        for (int what : new int[] {8, 9, -1, MIN, MAX}) Due.is("told(" + what + ")", x.told(what), -1);
    }

    private static void toldCounts() {
        Due.sentence("told: LINES with a FAULT, with FAULT 3, with FAULT 5");
        FeatureImport x = Given.table("a", "x", "1", "1", "y", "1", "2,2");
        x.key(0);
        x.type(0, 1);
        x.run(3);
        Due.is("told(6), the first line", x.told(6), 1);
        Due.is("told(7), the last line", x.told(7), 1);
        Due.is("told(2)", x.told(2), 2);
        x.run(24);
        Due.is("told(6)", x.told(6), 2);
        Due.is("told(7)", x.told(7), 2);
        Due.is("told(2)", x.told(2), 5);
        x.reset();
        x.run(1);
        Due.is("what was is gone: told(6)", x.told(6), 1);
        Due.is("what was is gone: told(7)", x.told(7), 0);
        x.reset();
        x.type(0, 4);
        x.run(3);
        Due.is("what was is gone: told(6)", x.told(6), 0);
        Due.is("told(7)", x.told(7), 1);
    }

    private static void valueNumbers() {
        Due.sentence("value: NO: none, no such ROW, COLUMN");
        FeatureImport x = imported("a,b", "14", "5,", "x,x");
        Due.is("value(0, 0)", x.value(0, 0), 5);
        Due.is("none", x.value(0, 1), Due.NO);
        for (int row : new int[] {1, 24, -1, -5, MIN, MAX}) Due.is("ROW " + row, x.value(row, 0), Due.NO);
        for (int c : new int[] {2, 5, -1, MIN, MAX}) Due.is("COLUMN " + c, x.value(0, c), Due.NO);
    }

    private static void featuresAre(FeatureImport x, int column, long... due) {
        for (int what = 0; what < due.length; what++) {
            Due.is("feature(" + column + ", " + what + ")", x.feature(column, what), due[what]);
        }
    }

    private static void featureOfNoRows() {
        Due.sentence("feature: NO: there are none (by 1, 2)");
        FeatureImport x = Given.table("a,b", "x", "1,2,3");
        featuresAre(x, 0, 0, Due.NO, Due.NO, 0, 0);
        x.run(24);
        featuresAre(x, 0, 0, Due.NO, Due.NO, 0, 0);
        FeatureImport y = imported("a,b", "14", ",", ",");
        featuresAre(y, 0, 0, Due.NO, Due.NO, 0, 2);
        featuresAre(y, 1, 0, Due.NO, Due.NO, 0, 2);
    }

    private static void featureOfOneRow() {
        Due.sentence("OF A COLUMN: one ROW");
        FeatureImport x = imported("a,b", "14", "-3," + LEAST_WORD);
        featuresAre(x, 0, 1, -3, -3, 1, 0);
        featuresAre(x, 1, 1, Due.NO, Due.NO, 1, 0);
    }

    private static void featureAtTheEnds() {
        Due.sentence("OF A COLUMN: the least, the greatest, unlike ones, first or last");
        FeatureImport x = imported("a,b,c", "111", "9,-9,0", "5,-5,1", "1,-1,0");
        featuresAre(x, 0, 3, 1, 9, 3, 0);
        featuresAre(x, 1, 3, -9, -1, 3, 0);
        featuresAre(x, 2, 3, 0, 1, 2, 0);
        FeatureImport y = imported("a,b", "12", "9,", "-9,1", ",7", ",8");
        featuresAre(y, 0, 2, -9, 9, 2, 2);
        featuresAre(y, 1, 3, 1000, 8000, 3, 1);
        y.reset();
        y.run(1);
        featuresAre(y, 0, 1, 9, 9, 1, 0);
        featuresAre(y, 1, 0, Due.NO, Due.NO, 0, 1);
        FeatureImport z = Given.table("a");
        for (int n = 0; n < 24; n++) Given.lines(z, "" + (n * 7 % 24 - 12));
        z.run(24);
        featuresAre(z, 0, 24, -12, 11, 24, 0);
    }

    private static void featureNumbers() {
        Due.sentence("feature: NO: column, what");
        FeatureImport x = imported("a", "1", "5");
        for (int what : new int[] {5, -1, MIN, MAX}) Due.is("feature(0, " + what + ")", x.feature(0, what), Due.NO);
        for (int c : new int[] {1, 5, -1, MIN, MAX}) Due.is("feature(" + c + ", 0)", x.feature(c, 0), Due.NO);
    }
}
