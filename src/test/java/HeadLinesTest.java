/** Promises 1 to 10: a new object, THE TEXT, the HEAD, LINES, FORMS, TYPES, votes. */
public final class HeadLinesTest {
    private static final String LONGEST = "abcdefghijkl,abcdefghijkl,abcdefghijkl,abcdefghijkl,abcdefgh";

    public static void main(String[] args) {
        newObject();
        feed();
        headAsTold();
        headFaults();
        headClearsTheRest();
        headFaultKeepsTheRest();
        line();
        lineFaults();
        lineStateAndFull();
        sample();
        type();
        key();
        column();
        guess();
        of();
        forms();
        votes();
        Due.end();
    }

    private static void newObject() {
        FeatureImport x = Given.nothing();
        Due.is("told(0)", x.told(0), 0);
        Due.is("told(1)", x.told(1), 0);
        Due.is("told(2)", x.told(2), 0);
        Due.is("told(3)", x.told(3), 0);
        Due.is("told(4)", x.told(4), -5);
        Due.is("told(5)", x.told(5), 8);
        for (int what = 0; what < 5; what++) Due.is("count(" + what + ")", x.count(what), 0);
        for (int tape = 0; tape < 6; tape++) Due.is("read", x.read(tape, 0), Due.NO);
        Due.is("column(0, 0)", x.column(0, 0), -1);
        Due.is("undo()", x.undo(), -3);
        Due.is("looked()", x.looked(), -5);
    }

    private static void feed() {
        FeatureImport x = Given.nothing();
        Due.is("feed(0)", x.feed(0), 1);
        Due.is("feed(127)", x.feed(127), 2);
        Due.is("feed(128)", x.feed(128), -2);
        Due.is("feed(-1)", x.feed(-1), -2);
        Due.is("feed(MAX)", x.feed(Integer.MAX_VALUE), -2);
        Due.is("count(4)", x.count(4), 2);
        for (int i = 3; i <= 60; i++) Due.is("feed(97)", x.feed(97), i);
        Due.is("feed(97), the 61st", x.feed(97), -4);
        Due.is("feed(128), the 61st", x.feed(128), -2);
        Due.is("count(4)", x.count(4), 60);
    }

    private static void headAsTold() {
        FeatureImport x = Given.nothing();
        Due.is("one letter", Given.head(x, "a"), 1);
        Due.is("a and z", Given.head(x, "az"), 1);
        Due.is("column(0, 4)", x.column(0, 4), 2);
        Due.is("four letters", Given.head(x, "abcd,abce"), 2);
        Due.is("a name that begins another", Given.head(x, "ab,abc,a"), 3);
        Due.is("column(0, 4)", x.column(0, 4), 2);
        Due.is("column(1, 4)", x.column(1, 4), 3);
        Due.is("column(2, 4)", x.column(2, 4), 1);
        Due.is("five", Given.head(x, "a,b,c,d,e"), 5);
        Due.is("told(3)", x.told(3), 5);
        Due.is("count(4)", x.count(4), 0);
    }

    private static void headFaults() {
        FeatureImport x = Given.nothing();
        headFault(x, "", 0);
        headFault(x, ",", 0);
        headFault(x, ",a", 0);
        headFault(x, "a,", 2);
        headFault(x, "a,,b", 2);
        headFault(x, "abcde", 4);
        headFault(x, "abcde,1", 4);
        headFault(x, "A", 0);
        headFault(x, "a`", 1);
        headFault(x, "a{", 1);
        headFault(x, "a b", 1);
        headFault(x, "a,B", 2);
        headFault(x, "a,b1", 3);
        headFault(x, "a,a", 2);
        headFault(x, "b,a,b", 4);
        headFault(x, "ab,ab,1", 3);
        headFault(x, "ab,ab1", 3);
        headFault(x, "abcd,abcde", 5);
        headFault(x, "abcd,abcd{", 5);
        headFault(x, "a,b,a,,", 4);
        headFault(x, "a,b,c,d,e,f", 9);
        headFault(x, "a,b,c,d,e,a", 9);
        headFault(x, "a,b,c,d,e,", 9);
        headFault(x, "a,b,c,d,d", 8);
        headFault(x, "abcd,abcd", 5);
        headFault(x, "ab,abcde", 7);
        headFault(x, "a,ab,ab", 5);
        Due.is("told(3)", x.told(3), 0);
    }

    private static void headFault(FeatureImport x, String text, int place) {
        Due.is("head() of '" + text + "'", Given.head(x, text), -10 - place);
        Due.is("count(4) behind '" + text + "'", x.count(4), 0);
    }

    private static FeatureImport fullTable() {
        FeatureImport x = Given.table("a,b", "1,x", "2,y", "1,z", "4", "5,5");
        x.sample(3);
        x.type(1, 4);
        x.key(0);
        x.run(4);
        x.see(1, false);
        x.plan(0, 3);
        x.plan(2, 0);
        x.book(0, 1);
        x.tape(2, 3, 4);
        x.item(2, 1, 77);
        Due.called(10);
        return x;
    }

    private static void headClearsTheRest() {
        FeatureImport x = fullTable();
        Due.is("head()", Given.head(x, "c,d"), 2);
        for (int what = 0; what < 5; what++) Due.is("count(" + what + ")", x.count(what), 0);
        Due.is("told(0)", x.told(0), 0);
        Due.is("told(1)", x.told(1), 0);
        Due.is("told(2)", x.told(2), 0);
        Due.is("told(3)", x.told(3), 2);
        Due.is("told(4)", x.told(4), -5);
        Due.is("told(5)", x.told(5), 3);
        Due.is("told(6)", x.told(6), 0);
        Due.is("told(7)", x.told(7), 0);
        Due.is("column(0, 3)", x.column(0, 3), 0);
        Due.is("column(1, 2)", x.column(1, 2), 0);
        Due.is("column(0, 0)", x.column(0, 0), 4);
        Due.is("of(0, 0)", x.of(0, 0), -1);
        Due.is("fault(0, 0)", x.fault(0, 0), -1);
        Due.is("value(0, 0)", x.value(0, 0), Due.NO);
        Due.is("read(2, 1)", x.read(2, 1), 77);
        Due.is("fits(0)", x.fits(0), 24);
    }

    private static void headFaultKeepsTheRest() {
        FeatureImport x = fullTable();
        Due.is("head()", Given.head(x, "c,"), -12);
        Due.is("count(0)", x.count(0), 5);
        Due.is("count(1)", x.count(1), 1);
        Due.is("count(2)", x.count(2), 2);
        Due.is("count(3)", x.count(3), 1);
        Due.is("count(4)", x.count(4), 0);
        Due.is("told(0)", x.told(0), 4);
        Due.is("told(1)", x.told(1), 2);
        Due.is("told(2)", x.told(2), 2);
        Due.is("told(3)", x.told(3), 2);
        Due.is("told(4)", x.told(4), 0);
        Due.is("told(5)", x.told(5), 3);
        Due.is("column(0, 3)", x.column(0, 3), 1);
        Due.is("column(1, 2)", x.column(1, 2), 4);
        Due.is("column(0, 4)", x.column(0, 4), 1);
    }

    private static void line() {
        FeatureImport x = Given.table("a");
        Due.is("an empty line", x.line(), 0);
        Due.is("of(0, 0)", x.of(0, 0), 1);
        Due.is("of(0, 3)", x.of(0, 3), 0);
        Due.is("of(0, 4)", x.of(0, 4), -5);
        Due.is("commas", Given.line(x, ",,"), 1);
        Due.is("of(1, 0)", x.of(1, 0), 3);
        Due.is("twelve bytes", Given.line(x, "abcdefghijkl,"), 2);
        Due.is("of(2, 0)", x.of(2, 0), 2);
        Due.is("the ends of what a byte can be", Given.line(x, " ~,+-"), 3);
        Due.is("of(3, 0)", x.of(3, 0), 2);
        Due.is("sixty bytes", Given.line(x, LONGEST), 4);
        Due.is("of(4, 0)", x.of(4, 0), 5);
        Due.is("sixty commas", Given.line(x, ",".repeat(60)), 5);
        Due.is("of(5, 0)", x.of(5, 0), 61);
        Due.is("of(5, 63)", x.of(5, 63), 0);
        Due.is("of(5, 64)", x.of(5, 64), -5);
        Due.is("count(0)", x.count(0), 6);
        Due.is("count(4)", x.count(4), 0);
    }

    private static void lineFaults() {
        FeatureImport x = Given.table("a,b");
        Due.is("a thirteenth byte", Given.line(x, "abcdefghijklm"), -22);
        Due.is("count(4)", x.count(4), 0);
        Due.is("a thirteenth byte further on", Given.line(x, "1,abcdefghijklmn,2"), -24);
        Due.is("thirteenth, and no sign", Given.line(x, "abcdefghijkl\177"), -22);
        Due.is("below 32", Given.line(x, "a,b\037"), -13);
        Due.is("above 126", Given.line(x, "\177"), -10);
        Due.is("0", Given.line(x, "ab\000,"), -12);
        Due.is("count(0)", x.count(0), 0);
        Due.is("thereafter", Given.line(x, "1,2"), 0);
    }

    private static void lineStateAndFull() {
        FeatureImport x = Given.nothing();
        Given.feed(x, "\001");
        Due.is("line() without a head", x.line(), -3);
        Due.is("count(4)", x.count(4), 1);
        Due.is("head()", x.head(), -10);
        Given.head(x, "a");
        for (int i = 0; i < 24; i++) Due.is("line()", Given.line(x, "1"), i);
        Given.feed(x, "\001ab");
        Due.is("line(), the 25th", x.line(), -4);
        Due.is("count(4)", x.count(4), 3);
        Due.is("count(0)", x.count(0), 24);
        Due.is("told(0)", x.told(0), 0);
    }

    private static void sample() {
        FeatureImport x = Given.table("a", "x", "1", "1");
        Due.is("column(0, 1)", x.column(0, 1), 1);
        Due.is("sample(2)", x.sample(2), 8);
        Due.is("column(0, 1)", x.column(0, 1), 4);
        Due.is("sample(0)", x.sample(0), -2);
        Due.is("sample(25)", x.sample(25), -2);
        Due.is("sample(-1)", x.sample(-1), -2);
        Due.is("told(5)", x.told(5), 2);
        Due.is("sample(24)", x.sample(24), 2);
        Due.is("sample(1)", x.sample(1), 24);
        Due.is("told(5)", x.told(5), 1);
    }

    private static void type() {
        FeatureImport x = Given.table("a,b", "1,2");
        Due.is("type(0, 4)", x.type(0, 4), 0);
        Due.is("column(0, 0)", x.column(0, 0), 4);
        Due.is("column(0, 1)", x.column(0, 1), 1);
        Due.is("type(0, 5)", x.type(0, 5), -2);
        Due.is("type(0, -1)", x.type(0, -1), -2);
        Due.is("type(2, 1)", x.type(2, 1), -1);
        Due.is("type(2, 5)", x.type(2, 5), -1);
        Due.is("type(-1, 1)", x.type(-1, 1), -1);
        Due.is("type(0, 2)", x.type(0, 2), 4);
        Due.is("column(1, 2)", x.column(1, 2), 0);
        Due.is("type(0, 0)", x.type(0, 0), 2);
        Due.is("column(0, 0)", x.column(0, 0), 1);
        Due.is("type(0, 1)", x.type(0, 1), 0);
        Due.is("run(1)", x.run(1), 1);
        Due.is("type(0, 3)", x.type(0, 3), 1);
        Due.is("settled stays", x.column(0, 0), 1);
        Due.is("told goes on", x.column(0, 2), 3);
        Due.is("reset()", x.reset(), 1);
        Due.is("told again", x.column(0, 0), 3);
    }

    private static void key() {
        FeatureImport x = Given.table("a,b", "1,2");
        Due.is("key(1)", x.key(1), -5);
        Due.is("told(4)", x.told(4), 1);
        Due.is("key(2)", x.key(2), -1);
        Due.is("key(-2)", x.key(-2), -1);
        Due.is("key(0)", x.key(0), 1);
        Due.is("run(0)", x.run(0), 0);
        Due.is("key(1)", x.key(1), 0);
        Due.is("run(1)", x.run(1), 1);
        Due.is("key(0)", x.key(0), -3);
        Due.is("key(-1)", x.key(-1), -3);
        Due.is("key(2)", x.key(2), -1);
        Due.is("told(4)", x.told(4), 1);
        Due.is("reset()", x.reset(), 1);
        Due.is("reset keeps it", x.told(4), 1);
        Due.is("key(-1)", x.key(-1), 1);
        Due.is("told(4)", x.told(4), -5);
        Due.is("key(-1)", x.key(-1), -5);
    }

    private static void column() {
        FeatureImport x = Given.table("ab,c", "1,2.5");
        x.type(0, 2);
        Due.is("column(0, 0)", x.column(0, 0), 2);
        Due.is("column(0, 1)", x.column(0, 1), 1);
        Due.is("column(0, 2)", x.column(0, 2), 2);
        Due.is("column(0, 3)", x.column(0, 3), 0);
        Due.is("column(0, 4)", x.column(0, 4), 2);
        Due.is("column(1, 0)", x.column(1, 0), 2);
        x.run(1);
        x.type(0, 4);
        Given.lines(x, ",x", ",y", ",z");
        Due.is("column(0, 0)", x.column(0, 0), 2);
        Due.is("column(0, 2)", x.column(0, 2), 4);
        Due.is("column(0, 3)", x.column(0, 3), 2);
        Due.is("column(1, 0)", x.column(1, 0), 2);
        Due.is("column(1, 1)", x.column(1, 1), 4);
        Due.is("column(1, 3)", x.column(1, 3), 2);
        Due.is("column(0, 5)", x.column(0, 5), -1);
        Due.is("column(0, -1)", x.column(0, -1), -1);
        Due.is("column(2, 0)", x.column(2, 0), -1);
        Due.is("column(-1, 0)", x.column(-1, 0), -1);
    }

    private static void guess() {
        FeatureImport x = Given.table("a,b,c", "1,,x", ",,2020-01-01", "2.5,,2020-01-01", "1", "1.5,");
        Due.is("of several the greatest", x.column(0, 1), 2);
        Due.is("empty ones alone", x.column(1, 1), 4);
        Due.is("most", x.column(2, 1), 3);
        Due.is("sample(4)", x.sample(4), 8);
        Due.is("a short line votes", x.column(0, 1), 1);
        Due.is("sample(3)", x.sample(3), 4);
        Due.is("a tie", x.column(0, 1), 2);
        Due.is("sample(2)", x.sample(2), 3);
        Due.is("word and date alike", x.column(2, 1), 4);
        Due.is("sample(1)", x.sample(1), 2);
        Due.is("one line", x.column(0, 1), 1);
        FeatureImport y = Given.table("a", "1,x,x", "2020-01-01,9");
        Due.is("long lines vote", y.column(0, 1), 3);
        Due.is("sample(1)", y.sample(1), 8);
        Due.is("the first", y.column(0, 1), 1);
        FeatureImport z = Given.table("a", "", "", "1", "2", "x");
        Due.is("empty fields don't vote", z.column(0, 1), 1);
        Due.is("sample(2)", z.sample(2), 8);
        Due.is("empty lines take of the sample", z.column(0, 1), 4);
    }

    private static void of() {
        FeatureImport x = Given.table("a,b", "1,x", "1", "2,2.5,3", "x,x", "4,5");
        x.run(4);
        Due.is("of(0, 0)", x.of(0, 0), 2);
        Due.is("of(1, 0)", x.of(1, 0), 1);
        Due.is("of(2, 0)", x.of(2, 0), 3);
        Due.is("of(0, 1)", x.of(0, 1), 1);
        Due.is("of(3, 1)", x.of(3, 1), 1);
        Due.is("of(4, 1)", x.of(4, 1), 0);
        Due.is("of(0, 2)", x.of(0, 2), 0);
        Due.is("of(1, 2)", x.of(1, 2), -5);
        Due.is("of(3, 2)", x.of(3, 2), -5);
        Due.is("of(4, 2)", x.of(4, 2), -5);
        Due.is("of(2, 3)", x.of(2, 3), 1);
        Due.is("of(2, 4)", x.of(2, 4), 2);
        Due.is("of(2, 5)", x.of(2, 5), 1);
        Due.is("of(2, 6)", x.of(2, 6), -5);
        Due.is("of(1, 4)", x.of(1, 4), -5);
        Due.is("of(0, MAX)", x.of(0, Integer.MAX_VALUE), -5);
        Due.is("of(0, -1)", x.of(0, -1), -1);
        Due.is("of(5, 0)", x.of(5, 0), -1);
        Due.is("of(-1, 0)", x.of(-1, 0), -1);
        x.run(1);
        Due.is("of(4, 1)", x.of(4, 1), 1);
        Due.is("of(4, 2)", x.of(4, 2), 1);
        x.reset();
        Due.is("of(4, 1)", x.of(4, 1), 0);
        Due.is("of(0, 2)", x.of(0, 2), -5);
    }

    private static void forms() {
        formsAre("", 0);
        formsAre("0,7,-1,123456,-123456,000,-0", 1);
        formsAre("1.5,-1.25,123456.789,0.0,-0.001", 2);
        formsAre("-123456.789,00.10", 2);
        formsAre("01/01/1900,31/12/2099,29/02/2000,29/02/1904", 3);
        formsAre("1900-01-01,2099-12-31,2000-02-29,2024-02-29", 3);
        formsAre("31/01/2010,30/04/2010,30/06/2010,30/09/2010", 3);
        formsAre("30/11/2010,31/03/2010,31/05/2010,31/07/2010", 3);
        formsAre("31/08/2010,31/10/2010,28/02/2010", 3);
        formsAre("29/02/1900,29/02/2001,30/02/2000,31/04/2010", 4);
        formsAre("31/06/2010,31/09/2010,31/11/2010,00/01/2010", 4);
        formsAre("01/00/2010,01/13/2010,32/01/2010,31/12/1899", 4);
        formsAre("01/01/2100,1899-12-31,2100-01-01,1900-02-29", 4);
        formsAre("2010-13-01,2010-00-10,2010-10-00,2010-1-01", 4);
        formsAre("1/01/2010,01/01/10,01-01-2010,2010/01/01", 4);
        formsAre("01/01-2010,2010-01/01,-01/01/2010,2010-01-011", 4);
        formsAre("-,--1,1-,.5,1.,-.5,-1.,1.2.3,1..2,+1", 4);
        formsAre("1234567,1234567.1,1.2345,-1234567,1 , 1,a", 4);
        formsAre("1a,1.a,1.5a,-a, ,.,0x1,12345.6789,1e5", 4);
        formsAre("aa/bb/cccc,0a/01/2010,2010-0b-01,01/01/201x", 4);
    }

    private static void formsAre(String text, int form) {
        FeatureImport x = Given.table("a", text);
        int fields = text.split(",", -1).length;
        Due.is("of(0, 0) by " + text, x.of(0, 0), fields);
        for (int f = 0; f < fields; f++) Due.is("form " + f + " of " + text, x.of(0, 3 + f), form);
    }

    private static void votes() {
        FeatureImport x = Given.table("a,b", "1,x", ",", "2", "2.5,1,1", "y,2020-01-01", "1,", "1,1");
        Due.is("votes(0, 0)", x.votes(0, 0), 1);
        Due.is("votes(0, 1)", x.votes(0, 1), 4);
        Due.is("votes(0, 2)", x.votes(0, 2), 1);
        Due.is("votes(0, 3)", x.votes(0, 3), 0);
        Due.is("votes(0, 4)", x.votes(0, 4), 1);
        Due.is("votes(1, 0)", x.votes(1, 0), 2);
        Due.is("votes(1, 1)", x.votes(1, 1), 2);
        Due.is("votes(1, 3)", x.votes(1, 3), 1);
        Due.is("votes(1, 4)", x.votes(1, 4), 1);
        x.sample(3);
        Due.is("votes(0, 1)", x.votes(0, 1), 2);
        Due.is("votes(1, 0)", x.votes(1, 0), 1);
        Due.is("votes(0, 5)", x.votes(0, 5), -1);
        Due.is("votes(0, -1)", x.votes(0, -1), -1);
        Due.is("votes(2, 0)", x.votes(2, 0), -1);
        Due.is("votes(-1, 0)", x.votes(-1, 0), -1);
        x.run(7);
        Due.is("as before, imported", x.votes(0, 1), 2);
    }
}
