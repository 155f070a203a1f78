import java.time.DateTimeException;
import java.time.LocalDate;
import java.util.ArrayList;
import java.util.List;

/** Terms 1 and promises 1 to 10: the edges that their sentences name, each by a test of its own. */
public final class TextEdgesTest {
    private static final int MIN = Integer.MIN_VALUE, MAX = Integer.MAX_VALUE;
    private static final String ALL_THERE_IS = "abcdefghijkl,".repeat(4) + "abcdefgh";

    public static void main(String[] args) {
        noColumnsAtFirst();
        columnNumbers();
        columnWhats();
        textOfSixty();
        feedBelowAndAbove();
        oneToFiveNames();
        oneToFourLetters();
        lettersFromAToZ();
        noTwoAlike();
        nameAsOneAhead();
        firstOfSeveralFaults();
        endsTooEarly();
        headEmptiesTheText();
        headLeavesSample();
        fieldsOneOrMore();
        fieldOfTwelveBytes();
        bytesOfAField();
        lineEmptiesTheText();
        lineNumbers();
        lineWithoutHead();
        lineWhenFull();
        intForms();
        decimalForms();
        datePatterns();
        daysThereAre();
        emptyAndWord();
        sampleFromOneToTwentyFour();
        eightAtFirst();
        firstSampleLines();
        ofSeveralTheGreatest();
        wordIfNoneHas();
        typeTold();
        keyNone();
        keyWhenImported();
        ofALine();
        votesOfEveryForm();
        Due.end();
    }

    private static void noColumnsAtFirst() {
        Due.sentence("COLUMNS: none at first");
        FeatureImport x = Given.nothing();
        Due.is("told(3)", x.told(3), 0);
        for (int c = 0; c < 5; c++) Due.is("column(" + c + ", 4)", x.column(c, 4), -1);
    }

    private static void columnNumbers() {
        Due.sentence("COLUMNS 0 .. 4, as the HEAD has them");
        String head = "a";
        for (int columns = 1; columns <= 5; columns++) {
            FeatureImport x = Given.table(head);
            for (int c = 0; c < columns; c++) Due.is("column(" + c + ", 4)", x.column(c, 4), 1);
            for (int c : new int[] {columns, 5, MAX, -1, MIN}) {
                Due.is("column(" + c + ", 4)", x.column(c, 4), -1);
            }
            head += "," + (char) ('a' + columns);
        }
    }

    private static void columnWhats() {
        Due.sentence("column: what 0 .. 4, else NONE");
        FeatureImport x = Given.table("a,bc", "1,x");
        int[] due = {4, 4, 0, 0, 2};
        for (int what = 0; what <= 4; what++) Due.is("column(1, " + what + ")", x.column(1, what), due[what]);
        for (int what : new int[] {5, -1, MIN, MAX}) Due.is("column(1, " + what + ")", x.column(1, what), -1);
    }

    private static void textOfSixty() {
        Due.sentence("THE TEXT: 60 bytes at most");
        FeatureImport x = Given.table("a");
        for (int i = 0; i < 60; i++) Due.is("feed", x.feed(ALL_THERE_IS.charAt(i)), i + 1);
        Due.is("feed('!')", x.feed('!'), -4);
        Due.is("feed('!')", x.feed('!'), -4);
        Due.is("count(4)", x.count(4), 60);
        Due.is("line()", x.line(), 0);
        Due.is("of(0, 0)", x.of(0, 0), 5);
        Due.is("feed('!')", x.feed('!'), 1);
    }

    private static void feedBelowAndAbove() {
        Due.sentence("feed: a sign 0 .. 127, else BAD");
        FeatureImport x = Given.nothing();
        for (int sign : new int[] {-1, 128, MIN, MAX, 'a' + 256}) {
            Due.is("feed(" + sign + ")", x.feed(sign), -2);
        }
        Due.is("count(4)", x.count(4), 0);
        for (int sign = 0; sign < 60; sign++) Due.is("feed(" + sign + ")", x.feed(sign), sign + 1);
        Due.is("BAD is named ahead of FULL", x.feed(128), -2);
        Due.is("BAD is named ahead of FULL", x.feed(-1), -2);
        Due.is("feed(127)", x.feed(127), -4);
        FeatureImport y = Given.nothing();
        for (int sign = 60; sign < 120; sign++) Due.is("feed(" + sign + ")", y.feed(sign), sign - 59);
        FeatureImport z = Given.nothing();
        for (int sign = 120; sign < 128; sign++) Due.is("feed(" + sign + ")", z.feed(sign), sign - 119);
    }

    /** On a new object and behind another HEAD, as names must not be left over. */
    private static void headIs(String text, int due) {
        FeatureImport x = Given.nothing();
        Due.is("head() of '" + text + "'", Given.head(x, text), due);
        Due.is("told(3) behind '" + text + "'", x.told(3), Math.max(0, due));
        FeatureImport y = Given.table("e,d,c,b,a");
        Due.is("head() of '" + text + "' behind another", Given.head(y, text), due);
        Due.is("told(3) behind '" + text + "'", y.told(3), due > 0 ? due : 5);
    }

    private static void oneToFiveNames() {
        Due.sentence("NAMES, 1 to 5, with , between");
        headIs("", -10);
        headIs("a", 1);
        headIs("a,b", 2);
        headIs("a,b,c,d", 4);
        headIs("a,b,c,d,e", 5);
        headIs("a,b,c,d,e,", -19);
        headIs("a,b,c,d,e,f", -19);
        headIs("abcd,abce,abcf,abcg,abch", 5);
        headIs("abcd,abce,abcf,abcg,abch,abci", -34);
        headIs("a;b", -11);
    }

    private static void oneToFourLetters() {
        Due.sentence("each 1 to 4 letters");
        headIs(",", -10);
        headIs(",a", -10);
        headIs("a,,b", -12);
        headIs("ab", 1);
        headIs("abc", 1);
        headIs("abcd", 1);
        headIs("abcde", -14);
        headIs("a,bcdef", -16);
        headIs("a".repeat(60), -14);
        FeatureImport x = Given.table("abcd,a,abc,ab");
        int[] sizes = {4, 1, 3, 2};
        for (int c = 0; c < 4; c++) Due.is("column(" + c + ", 4)", x.column(c, 4), sizes[c]);
    }

    private static void lettersFromAToZ() {
        Due.sentence("letters a .. z");
        for (char sign = 0; sign < 128; sign++) {
            boolean isLetter = sign >= 'a' && sign <= 'z';
            headIs("" + sign, isLetter ? 1 : -10);
            if (sign != ',') headIs("k" + sign, isLetter ? 1 : -11);
        }
    }

    private static void noTwoAlike() {
        Due.sentence("no two alike");
        headIs("a,a", -12);
        headIs("a,b,c,d,a", -18);
        headIs("a,b,c,d,d", -18);
        headIs("b,aa,a,ab", 4);
        headIs("abcd,dcba,abdc,abcd", -25);
        headIs("ab,ba", 2);
        headIs("aab,aac", 2);
    }

    private static void nameAsOneAhead() {
        Due.sentence("a NAME as one ahead: its first byte, as soon as four letters of it, or all, have come");
        headIs("abcd,abcd", -15);
        headIs("abcd,abcde", -15);
        headIs("abcd,abcd\177", -15);
        headIs("abcd,abcd,", -15);
        headIs("abcd,abcdabcdabcd", -15);
        headIs("ab,ab", -13);
        headIs("ab,ab0", -13);
        headIs("ab,ab,ab", -13);
        headIs("ab,abc", 2);
        headIs("ab,abc0", -16);
        headIs("abc,ab", 2);
        headIs("abcd,abc", 2);
        headIs("abc,abcd", 2);
        headIs("abc,abcde", -18);
        headIs("a,b,c,d,c,e", -18);
        headIs("a,b,c,d,e,e", -19);
    }

    private static void firstOfSeveralFaults() {
        Due.sentence("the first byte with which none begins so");
        headIs("1a,", -10);
        headIs("a1,,", -11);
        headIs("ab,1,ab", -13);
        headIs("ab,ab,1", -13);
        headIs("abcde,abcde", -14);
        lineIs("\001\002", -10);
        lineIs("a\001,abcdefghijklm", -11);
        lineIs("abcdefghijklm\001", -22);
        lineIs("abcdefghijkl\001", -22);
        lineIs("abcdefghijkl,,abcdefghijkl\177,\177", -36);
    }

    private static void endsTooEarly() {
        Due.sentence("the end of THE TEXT, if it ends too early");
        headIs("", -10);
        headIs("a,", -12);
        headIs("abcd,", -15);
        headIs("a,b,c,d,", -18);
        headIs("abcd,abce,abcf,abcg,", -30);
    }

    private static void headEmptiesTheText() {
        Due.sentence("head: THE TEXT is empty then, by a FAULT, too");
        FeatureImport x = Given.nothing();
        Due.is("head()", Given.head(x, "a,b"), 2);
        Due.is("count(4)", x.count(4), 0);
        Due.is("head()", Given.head(x, "a,B,c"), -12);
        Due.is("count(4)", x.count(4), 0);
        Due.is("feed('q')", x.feed('q'), 1);
        Due.is("head()", x.head(), 1);
        Due.is("head()", x.head(), -10);
    }

    private static void headLeavesSample() {
        Due.sentence("head: SAMPLE as it was");
        FeatureImport x = Given.nothing();
        x.sample(24);
        Due.is("head()", Given.head(x, "a"), 1);
        Due.is("told(5)", x.told(5), 24);
        Due.is("head()", Given.head(x, "1"), -10);
        Due.is("told(5)", x.told(5), 24);
    }

    private static void lineIs(String text, int due) {
        FeatureImport x = Given.table("a,b");
        Due.is("line() of '" + text + "'", Given.line(x, text), due);
        Due.is("count(0) behind '" + text + "'", x.count(0), due < 0 ? 0 : 1);
        Due.is("count(4) behind '" + text + "'", x.count(4), 0);
    }

    private static void fieldsOneOrMore() {
        Due.sentence("FIELDS, one or more, with , between");
        for (int fields = 1; fields <= 61; fields += 6) {
            FeatureImport x = Given.table("a");
            Due.is("line()", Given.line(x, ",".repeat(fields - 1)), 0);
            Due.is("of(0, 0)", x.of(0, 0), fields);
            Due.is("the last", x.of(0, 2 + fields), 0);
            Due.is("beyond", x.of(0, 3 + fields), -5);
        }
        FeatureImport y = Given.table("a", ALL_THERE_IS, "a,", ",a", "a");
        int[] due = {5, 2, 2, 1};
        for (int n = 0; n < due.length; n++) Due.is("of(" + n + ", 0)", y.of(n, 0), due[n]);
    }

    private static void fieldOfTwelveBytes() {
        Due.sentence("each 0 to 12 bytes");
        lineIs("", 0);
        lineIs(",", 0);
        lineIs("abcdefghijkl", 0);
        lineIs("abcdefghijkl,abcdefghijkl", 0);
        lineIs("abcdefghijklm", -22);
        lineIs("abcdefghijklmnop", -22);
        lineIs("abcdefghijklm,", -22);
        lineIs(",abcdefghijklm", -23);
        lineIs("abcdefghijkl,abcdefghijklm", -35);
        lineIs(ALL_THERE_IS, 0);
        lineIs("a".repeat(60), -22);
    }

    private static void bytesOfAField() {
        Due.sentence("bytes 32 .. 126 but the comma");
        for (char sign = 0; sign < 128; sign++) {
            boolean isSo = sign >= 32 && sign <= 126;
            lineIs("" + sign, isSo ? 0 : -10);
            lineIs("a,b" + sign + "c", isSo ? 0 : -13);
        }
    }

    private static void lineEmptiesTheText() {
        Due.sentence("line: THE TEXT is empty then, by a FAULT, too");
        FeatureImport x = Given.table("a");
        Due.is("line()", Given.line(x, "1"), 0);
        Due.is("count(4)", x.count(4), 0);
        Due.is("line()", x.line(), 1);
        Due.is("line()", Given.line(x, "1\001"), -11);
        Due.is("count(4)", x.count(4), 0);
        Due.is("line()", Given.line(x, "2.5"), 2);
        int[] forms = {1, 0, 2};
        for (int n = 0; n < 3; n++) Due.is("of(" + n + ", 3)", x.of(n, 3), forms[n]);
    }

    private static void lineNumbers() {
        Due.sentence("LINES 0 .. 23, as they come");
        FeatureImport x = Given.table("a");
        for (int n = 0; n < 24; n++) {
            Due.is("of(" + n + ", 0) ahead of it", x.of(n, 0), -1);
            Due.is("line()", Given.line(x, n % 2 == 0 ? "1" : "x,x"), n);
        }
        for (int n = 0; n < 24; n++) Due.is("of(" + n + ", 0)", x.of(n, 0), 1 + n % 2);
        for (int n : new int[] {24, -1, MIN, MAX}) Due.is("of(" + n + ", 0)", x.of(n, 0), -1);
    }

    private static void lineWithoutHead() {
        Due.sentence("line: STATE: there is no HEAD (THE TEXT stays)");
        FeatureImport x = Given.nothing();
        Due.is("line()", x.line(), -3);
        Due.is("line()", Given.line(x, "ab,c"), -3);
        Due.is("count(4)", x.count(4), 4);
        Due.is("line()", x.line(), -3);
        Due.is("head()", x.head(), 2);
        Due.is("count(0)", x.count(0), 0);
        FeatureImport y = Given.nothing();
        Due.is("by a text with a FAULT, too", Given.line(y, "\001"), -3);
        Due.is("count(4)", y.count(4), 1);
        Due.is("head() by a FAULT is no HEAD", y.head(), -10);
        Due.is("line()", y.line(), -3);
    }

    private static void lineWhenFull() {
        Due.sentence("line: FULL: 24 (THE TEXT stays)");
        FeatureImport x = Given.table("a");
        for (int n = 0; n < 24; n++) Due.is("line()", Given.line(x, "1"), n);
        Due.is("line()", x.line(), -4);
        Due.is("line()", Given.line(x, "b,c"), -4);
        Due.is("count(4)", x.count(4), 3);
        Due.is("count(0)", x.count(0), 24);
        Due.is("by a text with a FAULT, too", Given.line(x, "\001"), -4);
        Due.is("count(4)", x.count(4), 4);
        Due.is("head()", x.head(), -13);
        Due.is("head()", Given.head(x, "b,c"), 2);
        Due.is("LINES are none then", Given.line(x, "1"), 0);
    }

    private static void formsAre(int form, String... fields) {
        for (String field : fields) {
            FeatureImport x = Given.table("a", field, "," + field, field + ",");
            Due.is("FORM of '" + field + "'", x.of(0, 3), form);
            Due.is("FORM of '" + field + "' behind a comma", x.of(1, 4), form);
            Due.is("FORM of '" + field + "' ahead of a comma", x.of(2, 3), form);
        }
    }

    private static void intForms() {
        Due.sentence("INT: perhaps -, 1 to 6 digits");
        formsAre(1, "0", "9", "-0", "-9", "00", "-1", "123456", "-123456", "000000", "999999");
        formsAre(4, "-", "--1", "+1", "1234567", "-1234567", "0000001", "1-", "1-1", "- 1", " 1", "1 ");
        formsAre(4, "1/", "1:", "/1", ":1", "12:4", "0x1", "1e5", "a1", "123456789012");
    }

    private static void decimalForms() {
        Due.sentence("DECIMAL: perhaps -, 1 to 6 digits, a dot, 1 to 3 digits");
        formsAre(2, "0.0", "1.5", "-1.5", "123456.7", "-123456.789", "9.99", "00.00", "-0.000");
        formsAre(4, ".", "-.", ".5", "-.5", "5.", "-5.", "1234567.1", "-1234567.1", "1.2345", "1.1.1");
        formsAre(4, "1..1", "1.-1", "--1.1", "+1.1", "1.1-", "1,1".replace(',', ';'), "1. 1", "1.1 ");
        formsAre(4, "1.:", "1./", "1:.1", "1.12:", "1.12/", "1/1", "1-1");
    }

    private static void datePatterns() {
        Due.sentence("DATE: two digits, /, two, /, four, or four digits, -, two, -, two");
        formsAre(3, "01/02/2003", "2003-02-01", "31/12/1999", "1999-12-31");
        formsAre(4, "1/02/2003", "01/2/2003", "01/02/203", "01/02/20033", "001/02/2003");
        formsAre(4, "2003-2-01", "2003-02-1", "203-02-01", "20033-02-01", "2003-02-011");
        formsAre(4, "01-02-2003", "2003/02/01", "01/02-2003", "01-02/2003", "2003-02/01", "2003/02-01");
        formsAre(4, "01/02/2003 ", " 01/02/2003", "01.02.2003", "20030201", "-1/02/2003", "01/02/-003");
        formsAre(4, "0:/02/2003", "01/0:/2003", "01/02/200:", "200:-02-01", "2003-0:-01", "2003-02-0:");
        formsAre(4, "//////////", "----------", "aa/bb/cccc", "2003-bb-01");
    }

    private static void daysThereAre() {
        Due.sentence("DATE: the year 1900 .. 2099, a day that there is");
        List<String> dates = new ArrayList<>();
        for (int year : new int[] {0, 1899, 1900, 1904, 1999, 2000, 2001, 2004, 2099, 2100, 9999}) {
            for (int month = 0; month <= 13; month++) {
                for (int day : new int[] {0, 1, 9, 10, 27, 28, 29, 30, 31, 32, 99}) {
                    dates.add(String.format("%02d/%02d/%04d", day, month, year));
                    dates.add(String.format("%04d-%02d-%02d", year, month, day));
                }
            }
            dates.add(String.format("01/99/%04d", year));
            dates.add(String.format("%04d-99-01", year));
        }
        for (int from = 0; from < dates.size(); from += 25) {
            daysAre(dates.subList(from, Math.min(dates.size(), from + 25)));
        }
    }

    private static void daysAre(List<String> dates) {
        FeatureImport x = Given.table("a");
        for (int from = 0; from < dates.size(); from += 5) {
            List<String> some = dates.subList(from, Math.min(dates.size(), from + 5));
            Due.is("line()", Given.line(x, String.join(",", some)), from / 5);
            for (int i = 0; i < some.size(); i++) {
                Due.is("FORM of " + some.get(i), x.of(from / 5, 3 + i), isDay(some.get(i)) ? 3 : 4);
            }
        }
    }

    private static boolean isDay(String text) {
        String[] parts = text.split("[/-]");
        boolean isDayFirst = text.charAt(2) == '/';
        int year = Integer.parseInt(parts[isDayFirst ? 2 : 0]);
        int day = Integer.parseInt(parts[isDayFirst ? 0 : 2]);
        if (year < 1900 || year > 2099) return false;
        try {
            LocalDate.of(year, Integer.parseInt(parts[1]), day);
            return true;
        } catch (DateTimeException none) {
            return false;
        }
    }

    private static void emptyAndWord() {
        Due.sentence("EMPTY (no byte); WORD: any other");
        FeatureImport x = Given.table("a", "", ",", ", ", "~~~~~~~~~~~~");
        Due.is("of(0, 3)", x.of(0, 3), 0);
        Due.is("of(1, 3)", x.of(1, 3), 0);
        Due.is("of(1, 4)", x.of(1, 4), 0);
        Due.is("a blank is a byte", x.of(2, 4), 4);
        Due.is("of(3, 3)", x.of(3, 3), 4);
    }

    private static void sampleFromOneToTwentyFour() {
        Due.sentence("SAMPLE: 1 .. 24, else BAD");
        FeatureImport x = Given.nothing();
        int before = 8;
        for (int n = 1; n <= 24; n++) {
            Due.is("sample(" + n + ")", x.sample(n), before);
            before = n;
        }
        for (int n : new int[] {0, 25, -1, MIN, MAX}) Due.is("sample(" + n + ")", x.sample(n), -2);
        Due.is("told(5)", x.told(5), 24);
        Due.is("sample(1)", x.sample(1), 24);
    }

    private static void eightAtFirst() {
        Due.sentence("SAMPLE: 8 at first");
        FeatureImport x = Given.table("a", "1", "1", "1", "1", "x", "x", "x", "", "x", "x");
        Due.is("told(5)", x.told(5), 8);
        Due.is("the ninth line has no vote", x.column(0, 1), 1);
        Due.is("votes(0, 4)", x.votes(0, 4), 3);
        Due.is("sample(9)", x.sample(9), 8);
        Due.is("votes(0, 4)", x.votes(0, 4), 4);
        Due.is("column(0, 1)", x.column(0, 1), 4);
    }

    private static void firstSampleLines() {
        Due.sentence("in the first SAMPLE LINES (those that have such a FIELD)");
        FeatureImport x = Given.table("a,b", "1", "1", "1,1", "1,x", "1,x,9", "1,2020-01-01");
        int[] guesses = {4, 4, 1, 4, 4, 4};
        for (int n = 1; n <= 6; n++) {
            x.sample(n);
            Due.is("SAMPLE " + n + ", column(1, 1)", x.column(1, 1), guesses[n - 1]);
        }
        FeatureImport y = Given.table("a");
        for (int n = 0; n < 24; n++) Given.lines(y, n < 11 ? "1" : "2020-01-01");
        y.sample(21);
        Due.is("SAMPLE 21", y.column(0, 1), 1);
        y.sample(22);
        Due.is("SAMPLE 22", y.column(0, 1), 3);
        y.sample(24);
        Due.is("votes(0, 3)", y.votes(0, 3), 13);
    }

    private static void ofSeveralTheGreatest() {
        Due.sentence("of several FORMS the greatest");
        String[] fields = {"", "1", "1.5", "2020-01-01", "x"};
        for (int one = 1; one <= 4; one++) {
            for (int other = one; other <= 4; other++) {
                FeatureImport x = Given.table("a", fields[one], fields[other]);
                Due.is("GUESS of " + one + ", " + other, x.column(0, 1), other);
                FeatureImport y = Given.table("a", fields[other], "", fields[one], "", "");
                Due.is("GUESS of " + other + ", " + one, y.column(0, 1), other);
                FeatureImport z = Given.table("a", fields[one], fields[other], fields[one]);
                Due.is("GUESS of " + one + ", " + other + ", " + one, z.column(0, 1), one);
            }
        }
        FeatureImport all = Given.table("a", "x", "1", "2020-01-01", "1.5");
        Due.is("GUESS of all", all.column(0, 1), 4);
        FeatureImport three = Given.table("a", "1", "2020-01-01", "1.5");
        Due.is("GUESS of 1, 3, 2", three.column(0, 1), 3);
    }

    private static void wordIfNoneHas() {
        Due.sentence("GUESS: WORD, if none has");
        FeatureImport x = Given.table("a,b");
        Due.is("no lines", x.column(0, 1), 4);
        Given.lines(x, "", "1", ",");
        Due.is("EMPTY and none such", x.column(1, 1), 4);
        x.sample(1);
        Due.is("EMPTY alone", x.column(0, 1), 4);
    }

    private static void typeTold() {
        Due.sentence("type: 0: none is TOLD; NONE; BAD");
        FeatureImport x = Given.table("a,b", "1,x");
        Due.is("none at first", x.column(0, 2), 0);
        int before = 0;
        for (int type : new int[] {1, 2, 3, 4, 0, 0}) {
            Due.is("type(0, " + type + ")", x.type(0, type), before);
            Due.is("column(0, 0)", x.column(0, 0), type == 0 ? 1 : type);
            before = type;
        }
        x.type(0, 3);
        for (int type : new int[] {-1, 5, MIN, MAX}) Due.is("type(0, " + type + ")", x.type(0, type), -2);
        for (int c : new int[] {-1, 2, 5, MIN, MAX}) {
            Due.is("type(" + c + ", 1)", x.type(c, 1), -1);
            Due.is("NONE is named ahead of BAD", x.type(c, 5), -1);
        }
        Due.is("column(0, 2)", x.column(0, 2), 3);
        Due.is("column(1, 2)", x.column(1, 2), 0);
    }

    private static void keyNone() {
        Due.sentence("key: none (-1); -5: none; NONE");
        FeatureImport x = Given.nothing();
        Due.is("without a head", x.key(-1), -5);
        Due.is("without a head", x.key(0), -1);
        Due.is("head()", Given.head(x, "a,b,c,d,e"), 5);
        Due.is("key(4)", x.key(4), -5);
        for (int c : new int[] {5, -2, MIN, MAX}) Due.is("key(" + c + ")", x.key(c), -1);
        Due.is("told(4)", x.told(4), 4);
        Due.is("key(0)", x.key(0), 4);
        Due.is("key(-1)", x.key(-1), 0);
        Due.is("told(4)", x.told(4), -5);
    }

    private static void keyWhenImported() {
        Due.sentence("key: STATE: a LINE is IMPORTED");
        FeatureImport x = Given.table("a,b", "1");
        Due.is("key(0)", x.key(0), -5);
        x.run(0);
        Due.is("no LINE is IMPORTED", x.key(1), 0);
        x.run(1);
        Due.is("a LINE with a FAULT, too", x.key(0), -3);
        Due.is("also if it is the same", x.key(1), -3);
        Due.is("also for none", x.key(-1), -3);
        Due.is("NONE is named ahead of STATE", x.key(2), -1);
        Due.is("NONE is named ahead of STATE", x.key(-2), -1);
        Due.is("told(4)", x.told(4), 1);
        x.reset();
        Due.is("key(0)", x.key(0), 1);
    }

    private static void ofALine() {
        Due.sentence("of: -5: there is none such; NONE: line, what is below 0");
        FeatureImport x = Given.table("a", "1", "x,x");
        Due.is("not IMPORTED, no ROW", x.of(0, 2), -5);
        x.type(0, 1);
        x.run(1);
        Due.is("of(0, 2)", x.of(0, 2), 0);
        Due.is("of(1, 1)", x.of(1, 1), 0);
        x.run(1);
        Due.is("of(1, 1)", x.of(1, 1), 1);
        Due.is("a FAULT, no ROW", x.of(1, 2), -5);
        Due.is("of(0, 4)", x.of(0, 4), -5);
        Due.is("of(1, 4)", x.of(1, 4), 4);
        Due.is("of(1, 5)", x.of(1, 5), -5);
        Due.is("of(1, MAX)", x.of(1, MAX), -5);
        Due.is("of(1, -1)", x.of(1, -1), -1);
        Due.is("of(1, MIN)", x.of(1, MIN), -1);
        for (int n : new int[] {2, 23, 24, -1, MIN, MAX}) Due.is("of(" + n + ", 0)", x.of(n, 0), -1);
    }

    private static void votesOfEveryForm() {
        Due.sentence("votes: a FORM (0 .. 4), else NONE");
        FeatureImport x = Given.table("a", "", "1", "1", "1.5", "1.5", "1.5", "1/", "", "x");
        x.sample(24);
        int[] due = {2, 2, 3, 0, 2};
        for (int form = 0; form <= 4; form++) Due.is("votes(0, " + form + ")", x.votes(0, form), due[form]);
        for (int form : new int[] {-1, 5, MIN, MAX}) Due.is("votes(0, " + form + ")", x.votes(0, form), -1);
        for (int c : new int[] {-1, 1, 5, MIN, MAX}) Due.is("votes(" + c + ", 0)", x.votes(c, 0), -1);
        x.sample(1);
        Due.is("SAMPLE 1", x.votes(0, 0), 1);
        Due.is("SAMPLE 1", x.votes(0, 1), 0);
    }
}
