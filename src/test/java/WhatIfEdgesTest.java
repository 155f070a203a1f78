/** Term 2 and promises 18 to 27: the edges of what would be, each sentence by a test of its own. */
public final class WhatIfEdgesTest {
    private static final int MIN = Integer.MIN_VALUE, MAX = Integer.MAX_VALUE;

    public static void main(String[] args) {
        wouldOfNoneAndAll();
        wouldFromTheFirstOn();
        wouldWithTypeTold();
        wouldNumbers();
        needLeast();
        needNone();
        needNumbers();
        seeSixRows();
        seeNoneThen();
        seeNumbers();
        fitsOfNoneSeen();
        fitsLeast();
        fitsNone();
        fitsAllOfSeen();
        fitsNumbers();
        oddsOfNone();
        oddsInLowestTerms();
        oddsNumbers();
        meanOfNone();
        meanInLowestTerms();
        meanOfWord();
        meanNumbers();
        planEightRows();
        planEmptyThen();
        planNumbers();
        endsAsManyAsThereAre();
        endsFromWhatIs();
        endsSettles();
        endsOfReset();
        endsNumbers();
        bookEightRows();
        bookEmptyThen();
        bookNumbers();
        lookedFirst();
        lookedAtSettled();
        Due.end();
    }

    private static FeatureImport rowsOf(int n, String... fields) {
        FeatureImport x = Given.table("a");
        for (int i = 0; i < n; i++) Given.lines(x, fields[Math.min(i, fields.length - 1)]);
        return x;
    }

    private static void wouldOfNoneAndAll() {
        Due.sentence("WOULD: how many LINES would have a FAULT");
        FeatureImport x = Given.table("a");
        for (int type = 1; type <= 4; type++) Due.is("no LINES", x.would(0, type), 0);
        FeatureImport y = rowsOf(24, "x");
        for (int type = 1; type <= 3; type++) Due.is("all of 24", y.would(0, type), 24);
        Due.is("none of 24", y.would(0, 4), 0);
        FeatureImport z = rowsOf(24, "x", "1");
        Due.is("the first alone", z.would(0, 1), 1);
        Due.is("LINES that have one by their number of FIELDS", Given.table("a,b", "1", "1,1,1").would(0, 4), 2);
    }

    private static void wouldFromTheFirstOn() {
        Due.sentence("WOULD: were all IMPORTED from the first on (TYPES SETTLED anew)");
        FeatureImport x = Given.table("a,b", "1,1", "1,x", "1,x");
        x.sample(1);
        x.run(1);
        Due.is("all, not the rest", x.would(0, 3), 3);
        Due.is("by what SAMPLE is", x.would(0, 4), 2);
        x.sample(3);
        Due.is("SETTLED anew", x.would(0, 4), 0);
        Due.is("column(1, 3) stays", x.column(1, 3), 1);
        x.run(24);
        Due.is("when all are IMPORTED", x.would(0, 1), 0);
        Due.is("told(2) stays", x.told(2), 2);
        Due.is("told(0) stays", x.told(0), 3);
        FeatureImport y = Given.table("a,b", "1,x", "01,x", "1,x");
        y.key(0);
        y.run(24);
        Due.is("keys by their VALUES", y.would(0, 1), 2);
        Due.is("keys by their bytes", y.would(0, 4), 1);
        Due.is("told(7) stays", y.told(7), 2);
    }

    private static void wouldWithTypeTold() {
        Due.sentence("WOULD: with TYPE t TOLD for a COLUMN");
        FeatureImport x = Given.table("a,b", "1,1", "x,x");
        x.type(0, 1);
        x.type(1, 1);
        Due.is("the other stays TOLD", x.would(0, 4), 1);
        Due.is("column(0, 2) stays", x.column(0, 2), 1);
        x.type(1, 0);
        Due.is("the other by GUESS", x.would(0, 4), 0);
        Due.is("what was TOLD doesn't count", x.would(0, 1), 1);
    }

    private static void wouldNumbers() {
        Due.sentence("would: NONE: column; BAD: type (1 .. 4)");
        FeatureImport x = Given.table("a,b", "1,1");
        for (int type : new int[] {0, 5, -1, MIN, MAX}) Due.is("would(0, " + type + ")", x.would(0, type), -2);
        for (int c : new int[] {2, 5, -1, MIN, MAX}) {
            Due.is("would(" + c + ", 1)", x.would(c, 1), -1);
            Due.is("NONE is named ahead of BAD", x.would(c, 0), -1);
        }
        Due.is("would(1, 1)", x.would(1, 1), 0);
    }

    private static void needLeast() {
        Due.sentence("NEED: the least SAMPLE 1 .. 24 by which it is the GUESS");
        Due.is("1", rowsOf(24, "1").need(0, 1), 1);
        FeatureImport x = rowsOf(24, "1", "x", "1", "1.5", "1.5", "1.5");
        Due.is("by a tie", x.need(0, 4), 2);
        Due.is("the least of two spans", x.need(0, 1), 1);
        Due.is("further on", x.need(0, 2), 5);
        FeatureImport y = Given.table("a");
        for (int n = 0; n < 24; n++) Given.lines(y, n < 12 ? "1" : "1.5");
        Due.is("24", y.need(0, 2), 24);
        FeatureImport z = Given.table("a");
        for (int n = 0; n < 23; n++) Given.lines(z, n < 12 ? "1" : "1.5");
        Due.is("never by 23 LINES", z.need(0, 2), -5);
        x.sample(24);
        Due.is("whatever SAMPLE is", x.need(0, 1), 1);
    }

    private static void needNone() {
        Due.sentence("NEED: -5: none");
        FeatureImport x = Given.table("a");
        int[] due = {-5, -5, -5, 1};
        for (int type = 1; type <= 4; type++) Due.is("no LINES, TYPE " + type, x.need(0, type), due[type - 1]);
        Given.lines(x, "", "1,1");
        x.type(0, 2);
        Due.is("TOLD is no GUESS", x.need(0, 2), -5);
        Due.is("need(0, 1)", x.need(0, 1), 2);
        x.run(24);
        Due.is("SETTLED is no GUESS", x.need(0, 2), -5);
    }

    private static void needNumbers() {
        Due.sentence("need: NONE; BAD: type (1 .. 4)");
        FeatureImport x = Given.table("a,b", "1,1");
        for (int type : new int[] {0, 5, -1, MIN, MAX}) Due.is("need(0, " + type + ")", x.need(0, type), -2);
        for (int c : new int[] {2, 5, -1, MIN, MAX}) {
            Due.is("need(" + c + ", 1)", x.need(c, 1), -1);
            Due.is("NONE is named ahead of BAD", x.need(c, 5), -1);
        }
        Due.is("need(1, 1)", x.need(1, 1), 1);
    }

    private static void seeSixRows() {
        Due.sentence("SEEN: 6 rows at most; FULL: 6");
        FeatureImport x = rowsOf(8, "1");
        for (int i = 0; i < 6; i++) Due.is("see(" + i + ", false)", x.see(i, false), i + 1);
        Due.is("the seventh", x.see(6, false), -4);
        Due.is("one that is there", x.see(0, false), -4);
        Due.is("count(1)", x.count(1), 6);
        Due.is("NONE is named ahead of FULL", x.see(8, false), -1);
        Due.is("the seventh doesn't count", x.see(7, true), -4);
        Due.is("fits(0)", x.fits(0), 24);
    }

    private static void seeNoneThen() {
        Due.sentence("see: line -1: none then, 0, whatever the rest is");
        FeatureImport x = rowsOf(1, "1");
        Due.is("none yet", x.see(-1, true), 0);
        for (int i = 1; i <= 6; i++) x.see(0, true);
        Due.is("fits(0)", x.fits(0), 0);
        Due.is("when FULL", x.see(-1, false), 0);
        Due.is("count(1)", x.count(1), 0);
        Due.is("fits(0)", x.fits(0), 24);
        Due.is("see(0, false)", x.see(0, false), 1);
        Due.is("see(-1, true)", x.see(-1, true), 0);
        Due.is("without a head", Given.nothing().see(-1, true), 0);
    }

    private static void seeNumbers() {
        Due.sentence("see: NONE");
        FeatureImport x = Given.nothing();
        Due.is("without a head", x.see(0, true), -1);
        FeatureImport y = rowsOf(2, "1");
        for (int line : new int[] {2, 23, 24, -2, MIN, MAX}) {
            Due.is("see(" + line + ", true)", y.see(line, true), -1);
            Due.is("see(" + line + ", false)", y.see(line, false), -1);
        }
        Due.is("count(1)", y.count(1), 0);
        Due.is("the last LINE", y.see(1, true), 1);
        Due.is("the last of 24", rowsOf(24, "1").see(23, true), 1);
    }

    private static void fitsOfNoneSeen() {
        Due.sentence("FITS: all of SEEN would be so, and none is SEEN");
        FeatureImport x = Given.nothing();
        Due.is("without a head", x.fits(0), 24);
        Due.is("without a head", x.fits(1), 1);
        FeatureImport y = rowsOf(3, "1", "x");
        Due.is("fits(0)", y.fits(0), 24);
        Due.is("fits(1)", y.fits(1), 1);
    }

    private static void fitsLeast() {
        Due.sentence("FITS: how many SAMPLES 1 .. 24 there are; the least");
        FeatureImport x = Given.table("a");
        for (int n = 0; n < 24; n++) Given.lines(x, n < 12 ? "1" : "1.5");
        x.see(12, false);
        Due.is("24 alone", x.fits(0), 1);
        Due.is("24 alone", x.fits(1), 24);
        x.see(-1, true);
        x.see(12, true);
        Due.is("1 to 23", x.fits(0), 23);
        Due.is("1 to 23", x.fits(1), 1);
        FeatureImport y = Given.table("a", "1", "1.5", "1");
        y.see(1, false);
        Due.is("2 alone", y.fits(0), 1);
        Due.is("2 alone", y.fits(1), 2);
        Given.lines(y, "1.5");
        Due.is("2, and 4 to 24", y.fits(0), 22);
        Due.is("2, and 4 to 24", y.fits(1), 2);
        y.sample(1);
        y.run(24);
        Due.is("whatever SAMPLE and SETTLED are", y.fits(0), 22);
    }

    private static void fitsNone() {
        Due.sentence("FITS: -5: none");
        FeatureImport x = rowsOf(2, "1");
        x.see(0, true);
        Due.is("fits(0)", x.fits(0), 0);
        Due.is("fits(1)", x.fits(1), -5);
        FeatureImport y = rowsOf(2, "1");
        y.see(1, false);
        y.see(1, true);
        Due.is("both ways", y.fits(0), 0);
        Due.is("both ways", y.fits(1), -5);
    }

    private static void fitsAllOfSeen() {
        Due.sentence("FITS: all of SEEN, by TOLD and KEY");
        FeatureImport x = Given.table("a", "1", "x", "1");
        x.type(0, 1);
        x.key(0);
        x.see(0, false);
        x.see(1, true);
        x.see(2, true);
        Due.is("fits(0)", x.fits(0), 24);
        x.key(-1);
        Due.is("the last is otherwise", x.fits(0), 0);
        x.key(0);
        x.type(0, 4);
        Due.is("the second is otherwise", x.fits(0), 0);
        x.type(0, 3);
        Due.is("the first is otherwise", x.fits(0), 0);
    }

    private static void fitsNumbers() {
        Due.sentence("fits: NONE");
        FeatureImport x = rowsOf(1, "1");
        for (int what : new int[] {2, -1, MIN, MAX}) Due.is("fits(" + what + ")", x.fits(what), -1);
    }

    private static void oddsAre(FeatureImport x, long above, long below) {
        Due.is("odds(0)", x.odds(0), above);
        Due.is("odds(1)", x.odds(1), below);
    }

    private static void oddsOfNone() {
        Due.sentence("ODDS: NO: no LINE is IMPORTED");
        FeatureImport x = Given.nothing();
        oddsAre(x, Due.NO, Due.NO);
        FeatureImport y = rowsOf(2, "1");
        oddsAre(y, Due.NO, Due.NO);
        y.run(2);
        oddsAre(y, 0, 1);
        y.reset();
        oddsAre(y, Due.NO, Due.NO);
    }

    private static void oddsInLowestTerms() {
        Due.sentence("ODDS: a fraction in lowest terms");
        FeatureImport x = Given.table("a");
        for (int n = 0; n < 24; n++) Given.lines(x, n % 3 == 0 ? "x" : "1");
        x.type(0, 1);
        long[][] due = {{1, 1}, {1, 2}, {1, 3}, {1, 2}, {2, 5}, {1, 3}, {3, 7}, {3, 8}, {1, 3}, {2, 5}, {4, 11}, {1, 3}};
        for (long[] odds : due) {
            x.run(1);
            oddsAre(x, odds[0], odds[1]);
        }
        x.run(24);
        oddsAre(x, 1, 3);
        x.type(0, 3);
        x.reset();
        x.run(24);
        oddsAre(x, 1, 1);
        x.type(0, 4);
        x.reset();
        x.run(24);
        oddsAre(x, 0, 1);
    }

    private static void oddsNumbers() {
        Due.sentence("odds: NO: part");
        FeatureImport x = rowsOf(1, "1");
        x.run(1);
        for (int part : new int[] {2, -1, MIN, MAX}) Due.is("odds(" + part + ")", x.odds(part), Due.NO);
    }

    private static void meanIs(FeatureImport x, int column, long above, long below) {
        Due.is("mean(" + column + ", 0)", x.mean(column, 0), above);
        Due.is("mean(" + column + ", 1)", x.mean(column, 1), below);
    }

    private static void meanOfNone() {
        Due.sentence("MEAN: NO: there are none");
        FeatureImport x = Given.table("a,b", "1,", "2,");
        x.type(1, 1);
        meanIs(x, 0, Due.NO, Due.NO);
        x.run(24);
        meanIs(x, 0, 3, 2);
        meanIs(x, 1, Due.NO, Due.NO);
        x.reset();
        meanIs(x, 0, Due.NO, Due.NO);
    }

    private static void meanInLowestTerms() {
        Due.sentence("MEAN: VALUES together, by how many they are: a fraction in lowest terms");
        FeatureImport x = Given.table("a,b,c", "-4,0.001,01/01/2000", ",,", "-2,-0.001,", "6,,1999-12-31", "1,,1999-12-30", "x,9,");
        x.type(0, 1);
        x.type(1, 2);
        x.type(2, 3);
        x.run(1);
        meanIs(x, 0, -4, 1);
        meanIs(x, 1, 1, 1);
        meanIs(x, 2, 0, 1);
        x.run(2);
        meanIs(x, 0, -3, 1);
        meanIs(x, 1, 0, 1);
        x.run(1);
        meanIs(x, 0, 0, 1);
        meanIs(x, 2, -1, 2);
        x.run(2);
        meanIs(x, 0, 1, 4);
        meanIs(x, 1, 0, 1);
        meanIs(x, 2, -1, 1);
        FeatureImport y = rowsOf(24, "999999.999");
        y.run(23);
        meanIs(y, 0, 999999999, 1);
        y.run(1);
        meanIs(y, 0, 999999999, 1);
        FeatureImport z = rowsOf(24, "-999999", "0");
        z.run(24);
        meanIs(z, 0, -333333, 8);
    }

    private static void meanOfWord() {
        Due.sentence("MEAN: NO: its TYPE is WORD");
        FeatureImport x = rowsOf(2, "1");
        x.type(0, 4);
        x.run(24);
        meanIs(x, 0, Due.NO, Due.NO);
        x.type(0, 1);
        meanIs(x, 0, Due.NO, Due.NO);
        x.reset();
        x.run(24);
        meanIs(x, 0, 1, 1);
        x.type(0, 4);
        meanIs(x, 0, 1, 1);
    }

    private static void meanNumbers() {
        Due.sentence("mean: NO: part, column");
        FeatureImport x = rowsOf(1, "1");
        x.run(1);
        for (int part : new int[] {2, -1, MIN, MAX}) Due.is("mean(0, " + part + ")", x.mean(0, part), Due.NO);
        for (int c : new int[] {1, 5, -1, MIN, MAX}) Due.is("mean(" + c + ", 0)", x.mean(c, 0), Due.NO);
    }

    private static void planEightRows() {
        Due.sentence("PLAN: 8 rows at most; FULL: 8");
        FeatureImport x = rowsOf(2, "1");
        for (int i = 1; i <= 7; i++) Due.is("plan(0, 0)", x.plan(0, 0), i);
        Due.is("plan(0, 1)", x.plan(0, 1), 8);
        Due.is("plan(0, 1)", x.plan(0, 1), -4);
        Due.is("plan(1, 0)", x.plan(1, 0), -4);
        Due.is("plan(2, 0)", x.plan(2, 0), -4);
        Due.is("NONE is named ahead of FULL", x.plan(3, 0), -1);
        Due.is("NONE is named ahead of FULL", x.plan(1, 1), -1);
        Due.is("BAD is named ahead of FULL", x.plan(0, 25), -2);
        Due.is("count(2)", x.count(2), 8);
        Due.is("the eighth counts, no ninth", x.ends(0), 1);
    }

    private static void planEmptyThen() {
        Due.sentence("plan: what -1: it is empty then, 0, whatever the rest is");
        FeatureImport x = rowsOf(2, "1");
        for (int n : new int[] {0, -1, 25, MIN, MAX}) {
            Due.is("plan(0, 2)", x.plan(0, 2), 1);
            Due.is("ends(0)", x.ends(0), 2);
            Due.is("plan(-1, " + n + ")", x.plan(-1, n), 0);
            Due.is("count(2)", x.count(2), 0);
            Due.is("ends(0)", x.ends(0), 0);
        }
        for (int i = 1; i <= 8; i++) x.plan(2, 0);
        Due.is("when FULL", x.plan(-1, 0), 0);
        Due.is("plan(0, 1)", x.plan(0, 1), 1);
        Due.is("without a head", Given.nothing().plan(-1, 9), 0);
    }

    private static void planNumbers() {
        Due.sentence("plan: NONE: what (0 .. 2), column (by 1: -1, too); BAD: n (by 0: 0 .. 24; by 2 it does not matter)");
        FeatureImport x = Given.table("a,b,c", "1,1,1");
        for (int what : new int[] {3, -2, MIN, MAX}) {
            Due.is("plan(" + what + ", 0)", x.plan(what, 0), -1);
            Due.is("plan(" + what + ", 99)", x.plan(what, 99), -1);
        }
        for (int n : new int[] {3, 5, -2, MIN, MAX}) Due.is("plan(1, " + n + ")", x.plan(1, n), -1);
        for (int n : new int[] {-1, 25, MIN, MAX}) Due.is("plan(0, " + n + ")", x.plan(0, n), -2);
        Due.is("count(2)", x.count(2), 0);
        int[] columns = {-1, 0, 1, 2};
        for (int i = 0; i < 4; i++) Due.is("plan(1, " + columns[i] + ")", x.plan(1, columns[i]), i + 1);
        x.plan(-1, 0);
        int[] others = {0, 1, -1, 25, MIN, MAX};
        for (int i = 0; i < 6; i++) Due.is("plan(2, " + others[i] + ")", x.plan(2, others[i]), i + 1);
        Due.is("plan(0, 0)", x.plan(0, 0), 7);
        Due.is("plan(0, 24)", x.plan(0, 24), 8);
        FeatureImport y = Given.nothing();
        Due.is("no COLUMN without a head", y.plan(1, 0), -1);
        Due.is("none without a head", y.plan(1, -1), 1);
        Due.is("run without a head", y.plan(0, 24), 2);
        Due.is("ends(0)", y.ends(0), 0);
    }

    private static void endsAre(FeatureImport x, int rows, int faulty) {
        Due.is("ends(0)", x.ends(0), rows);
        Due.is("ends(1)", x.ends(1), faulty);
    }

    private static void endsAsManyAsThereAre() {
        Due.sentence("PLAN: 0 n LINES are IMPORTED (as many as there are)");
        FeatureImport x = rowsOf(3, "1", "x", "1");
        x.type(0, 1);
        int[][] due = {{0, 0}, {1, 0}, {1, 1}, {2, 1}, {2, 1}};
        for (int n = 0; n < 5; n++) {
            x.plan(-1, 0);
            x.plan(0, n);
            endsAre(x, due[n][0], due[n][1]);
        }
        x.plan(-1, 0);
        for (int i = 0; i < 8; i++) x.plan(0, 24);
        endsAre(x, 2, 1);
        FeatureImport y = rowsOf(24, "1");
        y.plan(0, 24);
        endsAre(y, 24, 0);
    }

    private static void endsFromWhatIs() {
        Due.sentence("ENDS: what it would be behind what is now, which stays");
        FeatureImport x = rowsOf(4, "1", "x", "1");
        x.type(0, 1);
        x.run(2);
        endsAre(x, 1, 1);
        x.plan(0, 1);
        endsAre(x, 2, 1);
        endsAre(x, 2, 1);
        Due.is("told(0)", x.told(0), 2);
        Due.is("told(1)", x.told(1), 1);
        Due.is("of(2, 1)", x.of(2, 1), 0);
        x.run(24);
        endsAre(x, 3, 1);
    }

    private static void endsSettles() {
        Due.sentence("PLAN: as the first LINE is IMPORTED, TYPES are SETTLED");
        FeatureImport x = rowsOf(3, "x", "1", "1");
        x.plan(0, 24);
        endsAre(x, 2, 1);
        Due.is("column(0, 3)", x.column(0, 3), 0);
        x.sample(1);
        endsAre(x, 3, 0);
        x.type(0, 3);
        endsAre(x, 0, 3);
        x.type(0, 4);
        x.run(1);
        x.type(0, 1);
        endsAre(x, 3, 0);
        x.plan(2, 0);
        x.plan(0, 24);
        endsAre(x, 2, 1);
        Due.is("column(0, 3)", x.column(0, 3), 4);
    }

    private static void endsOfReset() {
        Due.sentence("PLAN: 2 MARK is 0, no ROWS, nothing SETTLED; 1 KEY is COLUMN n (-1: none)");
        FeatureImport x = Given.table("a,b", "1,1", "1,2", "2,2", ",2");
        x.run(24);
        endsAre(x, 4, 0);
        x.plan(2, 0);
        endsAre(x, 0, 0);
        x.plan(0, 1);
        endsAre(x, 1, 0);
        x.plan(2, 0);
        x.plan(1, 0);
        x.plan(0, 24);
        endsAre(x, 2, 2);
        x.plan(2, 0);
        x.plan(1, 1);
        x.plan(0, 24);
        endsAre(x, 2, 2);
        x.plan(-1, 0);
        x.plan(2, 0);
        x.plan(1, 0);
        x.plan(1, -1);
        x.plan(0, 24);
        endsAre(x, 4, 0);
        Due.is("told(1)", x.told(1), 4);
        Due.is("told(4)", x.told(4), -5);
    }

    private static void endsNumbers() {
        Due.sentence("ends: NONE");
        FeatureImport x = rowsOf(1, "1");
        for (int what : new int[] {2, -1, MIN, MAX}) Due.is("ends(" + what + ")", x.ends(what), -1);
        endsAre(x, 0, 0);
    }

    private static void bookEightRows() {
        Due.sentence("BOOK: 8 rows at most; FULL: 8");
        FeatureImport x = rowsOf(1, "1");
        for (int i = 1; i <= 8; i++) Due.is("book(0, 1)", x.book(0, 1), i);
        Due.is("the ninth", x.book(0, 2), -4);
        Due.is("NONE is named ahead of FULL", x.book(1, 1), -1);
        Due.is("BAD is named ahead of FULL", x.book(0, 0), -2);
        Due.is("count(3)", x.count(3), 8);
        Due.is("looked()", x.looked(), -5);
    }

    private static void bookEmptyThen() {
        Due.sentence("book: column -1: it is empty then, 0, whatever the rest is");
        FeatureImport x = rowsOf(1, "1");
        for (int type : new int[] {1, 0, 5, MIN, MAX}) {
            Due.is("book(0, 4)", x.book(0, 4), 1);
            Due.is("looked()", x.looked(), 0);
            Due.is("book(-1, " + type + ")", x.book(-1, type), 0);
            Due.is("count(3)", x.count(3), 0);
            Due.is("looked()", x.looked(), -5);
        }
        for (int i = 1; i <= 8; i++) x.book(0, 1);
        Due.is("when FULL", x.book(-1, 1), 0);
        Due.is("book(0, 1)", x.book(0, 1), 1);
        Due.is("without a head", Given.nothing().book(-1, 9), 0);
    }

    private static void bookNumbers() {
        Due.sentence("book: NONE; BAD: type (1 .. 4)");
        FeatureImport x = Given.table("a,b");
        for (int type : new int[] {0, 5, -1, MIN, MAX}) Due.is("book(1, " + type + ")", x.book(1, type), -2);
        for (int c : new int[] {2, 5, -2, MIN, MAX}) {
            Due.is("book(" + c + ", 1)", x.book(c, 1), -1);
            Due.is("NONE is named ahead of BAD", x.book(c, 0), -1);
        }
        Due.is("count(3)", x.count(3), 0);
        for (int type = 1; type <= 4; type++) Due.is("book(1, " + type + ")", x.book(1, type), type);
        Due.is("no COLUMN without a head", Given.nothing().book(0, 1), -1);
    }

    private static void lookedFirst() {
        Due.sentence("LOOKED at: the number (from 0) of the first of these rows by which it is otherwise; -5: none");
        FeatureImport x = Given.table("a,b", "1,x");
        Due.is("an empty BOOK", x.looked(), -5);
        for (int i = 0; i < 7; i++) x.book(i % 2, i % 2 == 0 ? 1 : 4);
        Due.is("looked()", x.looked(), -5);
        x.book(1, 3);
        Due.is("the last alone", x.looked(), 7);
        x.type(1, 3);
        Due.is("the first of several", x.looked(), 1);
        x.type(0, 3);
        Due.is("the first row", x.looked(), 0);
    }

    private static void lookedAtSettled() {
        Due.sentence("LOOKED at: as TYPES are now");
        FeatureImport x = rowsOf(2, "1", "1.5");
        x.book(0, 2);
        Due.is("by GUESS", x.looked(), -5);
        x.sample(1);
        Due.is("by GUESS", x.looked(), 0);
        x.type(0, 2);
        Due.is("by TOLD", x.looked(), -5);
        x.run(1);
        x.type(0, 1);
        Due.is("by SETTLED", x.looked(), -5);
        x.reset();
        Due.is("nothing SETTLED", x.looked(), 0);
    }
}
