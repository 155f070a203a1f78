/** Promises 18 to 27: what would be, odds, means, plans, books. */
public final class WhatIfTest {
    public static void main(String[] args) {
        would();
        wouldAnew();
        need();
        see();
        fits();
        fitsByTypesAndKey();
        odds();
        mean();
        plan();
        ends();
        endsWithKey();
        book();
        looked();
        Due.end();
    }

    private static void would() {
        FeatureImport x = Given.table("a,b", "1,1", "2.5,1", "x,y", "01/01/2001,1", "1", ",1");
        Due.is("would(0, 1)", x.would(0, 1), 4);
        Due.is("would(0, 2)", x.would(0, 2), 3);
        Due.is("would(0, 3)", x.would(0, 3), 4);
        Due.is("would(0, 4)", x.would(0, 4), 2);
        Due.is("would(1, 4)", x.would(1, 4), 4);
        x.type(1, 4);
        Due.is("with another told", x.would(0, 4), 1);
        Due.is("would(0, 0)", x.would(0, 0), -2);
        Due.is("would(0, 5)", x.would(0, 5), -2);
        Due.is("would(2, 1)", x.would(2, 1), -1);
        Due.is("would(2, 5)", x.would(2, 5), -1);
        Due.is("would(-1, 1)", x.would(-1, 1), -1);
        Due.is("told(0)", x.told(0), 0);
        Due.is("column(0, 2)", x.column(0, 2), 0);
        Due.is("column(0, 3)", x.column(0, 3), 0);
    }

    private static void wouldAnew() {
        FeatureImport x = Given.table("a,b", "1,1", "1.0,2", "01,");
        x.key(0);
        x.run(1);
        Given.lines(x, "x,y", "x,z", "w,w");
        Due.is("keys by their values", x.would(0, 2), 5);
        Due.is("keys by their words", x.would(0, 4), 1);
        Due.is("types settled anew", x.would(1, 1), 3);
        Due.is("told(0)", x.told(0), 1);
        Due.is("told(1)", x.told(1), 1);
        Due.is("column(0, 3)", x.column(0, 3), 1);
        Due.is("told(4)", x.told(4), 0);
        FeatureImport y = Given.table("a");
        Due.is("no lines", y.would(0, 1), 0);
    }

    private static void need() {
        FeatureImport x = Given.table("a,b", "1,", "x,", "1,2.5", "2", "x,x");
        Due.is("need(0, 1)", x.need(0, 1), 1);
        Due.is("need(0, 4)", x.need(0, 4), 2);
        Due.is("need(0, 2)", x.need(0, 2), -5);
        Due.is("need(1, 4)", x.need(1, 4), 1);
        Due.is("need(1, 2)", x.need(1, 2), 3);
        Due.is("need(1, 3)", x.need(1, 3), -5);
        Due.is("need(0, 0)", x.need(0, 0), -2);
        Due.is("need(0, 5)", x.need(0, 5), -2);
        Due.is("need(2, 1)", x.need(2, 1), -1);
        Due.is("need(-1, 9)", x.need(-1, 9), -1);
        x.type(0, 3);
        x.run(2);
        Due.is("what is told is no guess", x.need(0, 3), -5);
        Due.is("told(5)", x.told(5), 8);
        FeatureImport y = Given.table("a");
        for (int i = 0; i < 23; i++) Given.lines(y, i % 2 == 0 ? "x" : "1");
        Due.is("need(0, 1)", y.need(0, 1), -5);
        FeatureImport z = Given.table("a");
        for (int i = 0; i < 24; i++) Given.lines(z, i < 11 ? "x" : i == 11 ? "" : "1");
        Due.is("need(0, 1)", z.need(0, 1), 24);
        FeatureImport w = Given.table("a", "2020-01-01");
        Due.is("no lines but one", w.need(0, 4), -5);
    }

    private static void see() {
        FeatureImport x = Given.table("a", "1", "x");
        Due.is("see(0, false)", x.see(0, false), 1);
        Due.is("see(2, true)", x.see(2, true), -1);
        Due.is("see(-2, true)", x.see(-2, true), -1);
        Due.is("the same line again", x.see(0, false), 2);
        for (int i = 3; i <= 6; i++) Due.is("see(1, true)", x.see(1, true), i);
        Due.is("see(1, true)", x.see(1, true), -4);
        Due.is("see(2, true)", x.see(2, true), -1);
        Due.is("count(1)", x.count(1), 6);
        Due.is("see(-1, true)", x.see(-1, true), 0);
        Due.is("count(1)", x.count(1), 0);
        Due.is("see(1, false)", x.see(1, false), 1);
        Due.is("fits(0)", x.fits(0), 23);
    }

    private static void fits() {
        FeatureImport x = Given.table("a", "1", "x", "1", "1", "2");
        Due.is("fits(0)", x.fits(0), 24);
        Due.is("fits(1)", x.fits(1), 1);
        x.see(1, false);
        Due.is("fits(0)", x.fits(0), 1);
        Due.is("fits(1)", x.fits(1), 2);
        x.see(0, false);
        Due.is("fits(1)", x.fits(1), 2);
        x.see(1, true);
        Due.is("fits(0)", x.fits(0), 0);
        Due.is("fits(1)", x.fits(1), -5);
        x.see(-1, false);
        x.see(1, true);
        Due.is("fits(0)", x.fits(0), 23);
        Due.is("fits(1)", x.fits(1), 1);
        Due.is("fits(2)", x.fits(2), -1);
        Due.is("fits(-1)", x.fits(-1), -1);
        x.sample(2);
        x.run(24);
        Due.is("whatever is settled", x.fits(0), 23);
        Due.is("told(0)", x.told(0), 5);
        Due.is("told(2)", x.told(2), 0);
        Due.is("told(5)", x.told(5), 2);
    }

    private static void fitsByTypesAndKey() {
        FeatureImport x = Given.table("a,k", "1,x", "x,y", "1,x", "1,");
        x.key(1);
        x.type(0, 4);
        x.see(1, false);
        x.see(2, true);
        x.see(3, true);
        Due.is("fits(0)", x.fits(0), 24);
        x.see(0, true);
        Due.is("fits(0)", x.fits(0), 0);
        FeatureImport y = Given.table("a");
        for (int i = 0; i < 24; i++) Given.lines(y, i < 12 ? "x" : "1");
        y.see(0, true);
        Due.is("fits(0)", y.fits(0), 0);
        FeatureImport z = Given.table("a");
        for (int i = 0; i < 24; i++) Given.lines(z, i < 11 ? "x" : i == 11 ? "" : "1");
        z.see(0, true);
        Due.is("fits(0)", z.fits(0), 1);
        Due.is("fits(1)", z.fits(1), 24);
    }

    private static void odds() {
        FeatureImport x = Given.table("a", "1", "x", "1", "1", "1,2", "y");
        Due.is("odds(0)", x.odds(0), Due.NO);
        Due.is("odds(1)", x.odds(1), Due.NO);
        x.run(1);
        Due.is("odds(0)", x.odds(0), 0);
        Due.is("odds(1)", x.odds(1), 1);
        x.run(1);
        Due.is("odds(0)", x.odds(0), 1);
        Due.is("odds(1)", x.odds(1), 2);
        x.run(2);
        Due.is("odds(0)", x.odds(0), 1);
        Due.is("odds(1)", x.odds(1), 4);
        x.run(1);
        Due.is("odds(0)", x.odds(0), 2);
        Due.is("odds(1)", x.odds(1), 5);
        x.run(1);
        Due.is("odds(0)", x.odds(0), 1);
        Due.is("odds(1)", x.odds(1), 2);
        Due.is("odds(2)", x.odds(2), Due.NO);
        Due.is("odds(-1)", x.odds(-1), Due.NO);
        FeatureImport y = Given.table("a,b", "1", "1");
        y.run(2);
        Due.is("all have one", y.odds(0), 1);
        Due.is("all have one", y.odds(1), 1);
    }

    private static void mean() {
        FeatureImport x = Given.table("a,b,c,d", "4,-1.5,x,2000-01-02", "-10,,y,01/01/2000", ",1,z,31/12/1999");
        Due.is("mean(0, 0)", x.mean(0, 0), Due.NO);
        x.type(0, 1);
        x.run(24);
        meanIs(x, 0, -3, 1);
        meanIs(x, 1, -250, 1);
        meanIs(x, 2, Due.NO, Due.NO);
        meanIs(x, 3, 0, 1);
        Due.is("mean(0, 2)", x.mean(0, 2), Due.NO);
        Due.is("mean(0, -1)", x.mean(0, -1), Due.NO);
        Due.is("mean(4, 0)", x.mean(4, 0), Due.NO);
        Due.is("mean(-1, 0)", x.mean(-1, 0), Due.NO);
        FeatureImport y = Given.table("a,b", "-1,", "-2,", "-1,", "6,", "0,", "-7,");
        y.type(1, 1);
        y.run(3);
        meanIs(y, 0, -4, 3);
        meanIs(y, 1, Due.NO, Due.NO);
        y.run(1);
        meanIs(y, 0, 1, 2);
        y.run(2);
        meanIs(y, 0, -5, 6);
    }

    private static void meanIs(FeatureImport x, int column, long above, long below) {
        Due.is("mean(" + column + ", 0)", x.mean(column, 0), above);
        Due.is("mean(" + column + ", 1)", x.mean(column, 1), below);
    }

    private static void plan() {
        FeatureImport x = Given.table("a,b");
        Due.is("plan(3, 0)", x.plan(3, 0), -1);
        Due.is("plan(-2, 0)", x.plan(-2, 0), -1);
        Due.is("plan(1, 2)", x.plan(1, 2), -1);
        Due.is("plan(1, -2)", x.plan(1, -2), -1);
        Due.is("plan(0, 25)", x.plan(0, 25), -2);
        Due.is("plan(0, -1)", x.plan(0, -1), -2);
        Due.is("count(2)", x.count(2), 0);
        Due.is("plan(1, -1)", x.plan(1, -1), 1);
        Due.is("plan(1, 1)", x.plan(1, 1), 2);
        Due.is("plan(0, 0)", x.plan(0, 0), 3);
        Due.is("plan(0, 24)", x.plan(0, 24), 4);
        Due.is("plan(2, 99)", x.plan(2, 99), 5);
        Due.is("plan(2, -99)", x.plan(2, -99), 6);
        Due.is("plan(2, 0)", x.plan(2, 0), 7);
        Due.is("plan(2, 0)", x.plan(2, 0), 8);
        Due.is("plan(2, 0)", x.plan(2, 0), -4);
        Due.is("plan(1, 2)", x.plan(1, 2), -1);
        Due.is("plan(0, 25)", x.plan(0, 25), -2);
        Due.is("count(2)", x.count(2), 8);
        Due.is("plan(-1, 77)", x.plan(-1, 77), 0);
        Due.is("count(2)", x.count(2), 0);
    }

    private static void ends() {
        FeatureImport x = Given.table("a", "1", "x", "2", "3", "1,2");
        endsAre(x, 0, 0);
        x.plan(0, 2);
        endsAre(x, 1, 1);
        x.plan(0, 24);
        endsAre(x, 3, 2);
        Due.is("told(0)", x.told(0), 0);
        Due.is("column(0, 3)", x.column(0, 3), 0);
        x.run(1);
        endsAre(x, 3, 2);
        x.plan(2, 5);
        endsAre(x, 0, 0);
        x.plan(0, 3);
        endsAre(x, 2, 1);
        Due.is("told(0)", x.told(0), 1);
        Due.is("told(1)", x.told(1), 1);
        Due.is("ends(2)", x.ends(2), -1);
        Due.is("ends(-1)", x.ends(-1), -1);
        x.plan(-1, 0);
        endsAre(x, 1, 0);
        x.run(4);
        endsAre(x, 3, 2);
        x.type(0, 4);
        x.plan(0, 24);
        endsAre(x, 3, 2);
        x.plan(2, 0);
        x.plan(0, 24);
        endsAre(x, 4, 1);
    }

    private static void endsAre(FeatureImport x, int rows, int faulty) {
        Due.is("ends(0)", x.ends(0), rows);
        Due.is("ends(1)", x.ends(1), faulty);
    }

    private static void endsWithKey() {
        FeatureImport x = Given.table("a,b", "1,1", "1,2", "2,2", ",3");
        x.key(1);
        x.plan(0, 24);
        endsAre(x, 3, 1);
        x.plan(-1, 0);
        x.plan(1, 0);
        x.plan(0, 24);
        endsAre(x, 2, 2);
        Due.is("told(4)", x.told(4), 1);
        x.plan(2, 0);
        x.plan(1, -1);
        x.plan(0, 24);
        endsAre(x, 4, 0);
        x.run(24);
        Due.is("told(1)", x.told(1), 3);
        x.plan(-1, 0);
        x.plan(1, 1);
        endsAre(x, 3, 1);
        FeatureImport y = Given.table("a,b", "1,1", "1,2", "2,2", "1,3", "3,3");
        y.key(0);
        y.plan(0, 1);
        y.plan(0, 2);
        y.plan(0, 24);
        endsAre(y, 3, 2);
        y.run(2);
        y.plan(-1, 0);
        y.plan(1, 0);
        endsAre(y, 1, 1);
        y.plan(0, 24);
        endsAre(y, 3, 2);
    }

    private static void book() {
        FeatureImport x = Given.table("a,b");
        Due.is("book(2, 1)", x.book(2, 1), -1);
        Due.is("book(-2, 1)", x.book(-2, 1), -1);
        Due.is("book(2, 0)", x.book(2, 0), -1);
        Due.is("book(0, 0)", x.book(0, 0), -2);
        Due.is("book(0, 5)", x.book(0, 5), -2);
        for (int i = 1; i <= 8; i++) Due.is("book(1, 4)", x.book(1, 4), i);
        Due.is("book(1, 4)", x.book(1, 4), -4);
        Due.is("book(1, 5)", x.book(1, 5), -2);
        Due.is("book(2, 4)", x.book(2, 4), -1);
        Due.is("count(3)", x.count(3), 8);
        Due.is("book(-1, 9)", x.book(-1, 9), 0);
        Due.is("count(3)", x.count(3), 0);
    }

    private static void looked() {
        FeatureImport x = Given.table("a,b", "1,x");
        Due.is("looked()", x.looked(), -5);
        x.book(0, 1);
        x.book(1, 4);
        x.book(0, 1);
        Due.is("looked()", x.looked(), -5);
        x.type(1, 1);
        Due.is("looked()", x.looked(), 1);
        x.type(0, 2);
        Due.is("looked()", x.looked(), 0);
        x.type(0, 0);
        x.type(1, 0);
        x.run(1);
        x.type(1, 1);
        Due.is("what is settled stays", x.looked(), -5);
        x.reset();
        Due.is("looked()", x.looked(), 1);
        x.type(1, 0);
        x.book(0, 4);
        Due.is("looked()", x.looked(), 3);
        x.book(-1, 0);
        Due.is("looked()", x.looked(), -5);
    }
}
