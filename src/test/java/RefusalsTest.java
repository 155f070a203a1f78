import java.util.ArrayList;
import java.util.List;

/**
 * "What is answered so changes nothing; what is asked changes nothing": each refused call and each
 * question is put to an object, which must answer thereafter as one that was never asked.
 */
public final class RefusalsTest {
    private static final int MIN = Integer.MIN_VALUE, MAX = Integer.MAX_VALUE;
    private static final int[] FAR = {MIN, -6, -5, -3, -2, 6, 24, 25, 61, 128, MAX};
    private static final int NEW = 0, BUSY = 1, FULL = 2;

    private interface Call {
        long on(FeatureImport x);
    }

    public static void main(String[] args) {
        refusedByANewObject();
        refusedByABusyOne();
        refusedByAFullOne();
        questions();
        Due.end();
    }

    // ---- the objects that are asked

    private static FeatureImport object(int kind) {
        if (kind == NEW) return Given.nothing();
        FeatureImport x = kind == BUSY ? busy() : full();
        x.tape(0, 3, 4);
        x.item(0, 0, 1);
        x.item(0, 1, 2);
        x.tape(1, 0, 3);
        x.item(1, 2, -7);
        x.tape(2, 3, 2);
        Due.called(6);
        return x;
    }

    /** Some of all: LINES with each FAULT, one that is not IMPORTED, an image of something else. */
    private static FeatureImport busy() {
        FeatureImport x = Given.table("i,w", "1,x", "1,x", "2,", "x,y", "3", "4,5,6", ",z", "2,1.5");
        x.image();
        Given.lines(x, "7,7");
        x.sample(3);
        x.type(1, 4);
        x.key(0);
        x.run(8);
        x.type(0, 2);
        x.see(1, true);
        x.see(0, false);
        x.plan(2, 0);
        x.plan(0, 5);
        x.book(0, 1);
        x.book(1, 3);
        Given.feed(x, "8,");
        Due.called(14);
        return x;
    }

    private static FeatureImport full() {
        FeatureImport x = Given.table("a");
        for (int n = 0; n < 24; n++) Given.lines(x, n % 4 == 0 ? "x" : "" + n % 10);
        x.key(0);
        x.run(24);
        for (int i = 0; i < 6; i++) x.see(i * 4, true);
        for (int i = 0; i < 8; i++) x.plan(i % 2 == 0 ? 2 : 0, 5 + i);
        for (int i = 0; i < 8; i++) x.book(0, i == 5 ? 4 : 1);
        for (int i = 0; i < 60; i++) x.feed(i % 5 == 4 ? ',' : 'a' + i % 26);
        Due.called(86);
        return x;
    }

    // ---- what an object answers

    private static List<Long> answersOf(FeatureImport x) {
        List<Long> answers = new ArrayList<>();
        for (int what = 0; what < 8; what++) answers.add((long) x.told(what));
        for (int what = 0; what < 5; what++) answers.add((long) x.count(what));
        for (int c = 0; c < 2; c++) {
            for (int what = 0; what < 5; what++) answers.add((long) x.column(c, what));
            for (int what = 0; what < 5; what++) answers.add(x.feature(c, what));
        }
        for (int line = 0; line < 24; line += line < 9 ? 1 : 7) {
            answers.add((long) x.of(line, 2));
            answers.add((long) x.of(line, 3));
            answers.add((long) x.fault(line, 0));
            answers.add((long) x.fault(line, 1));
            answers.add(x.value(line, 0));
        }
        answers.add((long) x.looked());
        for (int what = 0; what < 2; what++) {
            answers.add((long) x.fits(what));
            answers.add((long) x.ends(what));
            answers.add(x.odds(what));
            answers.add(x.mean(0, what));
        }
        for (int tape = 0; tape < 3; tape++) {
            for (int i = 0; i < 5; i++) answers.add(x.read(tape, i));
            answers.add((long) x.judge(0, tape, 0));
        }
        textAndImage(x, answers);
        return answers;
    }

    /** What THE TEXT, what is SETTLED and THE IMAGE are shows when they are used. */
    private static void textAndImage(FeatureImport x, List<Long> answers) {
        answers.add((long) x.line());
        for (int f = 0; f < 4; f++) answers.add((long) x.of(x.count(0) - 1, 3 + f));
        answers.add((long) x.run(24));
        answers.add((long) x.told(1));
        answers.add((long) x.undo());
        for (int what = 0; what < 4; what++) answers.add((long) x.count(what));
        answers.add((long) x.told(0));
        answers.add((long) x.told(4));
        answers.add((long) x.told(5));
        answers.add((long) x.column(0, 2));
        answers.add((long) x.run(24));
        answers.add((long) x.told(1));
    }

    private static void refused(int kind, String name, long due, Call call) {
        Due.sentence("What is answered so changes nothing");
        FeatureImport x = object(kind);
        Due.is(name, call.on(x), due);
        Due.is(name + ", again", call.on(x), due);
        same(name, answersOf(x), answersOf(object(kind)));
    }

    private static void same(String name, List<Long> got, List<Long> due) {
        if (!got.equals(due)) Due.fail(name + " changes the answers to " + got + ", due are " + due);
    }

    // ---- refusals

    private static void refusedByANewObject() {
        refused(NEW, "line()", -3, x -> x.line());
        refused(NEW, "undo()", -3, x -> x.undo());
        refused(NEW, "head()", -10, x -> x.head());
        refused(NEW, "type(0, 1)", -1, x -> x.type(0, 1));
        refused(NEW, "key(0)", -1, x -> x.key(0));
        refused(NEW, "see(0, true)", -1, x -> x.see(0, true));
        refused(NEW, "plan(1, 0)", -1, x -> x.plan(1, 0));
        refused(NEW, "book(0, 1)", -1, x -> x.book(0, 1));
        refused(NEW, "item(0, 0, 1)", -11, x -> x.item(0, 0, 1));
        refused(NEW, "shift(0, 0, 1, 0, 1)", -11, x -> x.shift(0, 0, 1, 0, 1));
        refused(NEW, "taken(0, 0, 0)", -11, x -> x.taken(0, 0, 0));
    }

    private static void refusedByABusyOne() {
        for (int n : new int[] {MIN, -1, 128, MAX}) refused(BUSY, "feed(" + n + ")", -2, x -> x.feed(n));
        for (int n : new int[] {MIN, -1, 0, 25, MAX}) refused(BUSY, "sample(" + n + ")", -2, x -> x.sample(n));
        for (int n : new int[] {MIN, -1, 25, MAX}) refused(BUSY, "run(" + n + ")", -2, x -> x.run(n));
        for (int c : new int[] {MIN, -2, 2, 5, MAX}) refused(BUSY, "key(" + c + ")", -1, x -> x.key(c));
        for (int c = -1; c < 2; c++) {
            int key = c;
            refused(BUSY, "key(" + c + ")", -3, x -> x.key(key));
        }
        for (int c : new int[] {MIN, -1, 2, 5, MAX}) refused(BUSY, "type(" + c + ", 1)", -1, x -> x.type(c, 1));
        for (int t : new int[] {MIN, -1, 5, MAX}) refused(BUSY, "type(1, " + t + ")", -2, x -> x.type(1, t));
        for (int n : new int[] {MIN, -2, 9, 24, MAX}) refused(BUSY, "see(" + n + ", true)", -1, x -> x.see(n, true));
        for (int n : new int[] {MIN, -2, 3, MAX}) refused(BUSY, "plan(" + n + ", 0)", -1, x -> x.plan(n, 0));
        for (int n : new int[] {MIN, -2, 2, MAX}) refused(BUSY, "plan(1, " + n + ")", -1, x -> x.plan(1, n));
        for (int n : new int[] {MIN, -1, 25, MAX}) refused(BUSY, "plan(0, " + n + ")", -2, x -> x.plan(0, n));
        for (int c : new int[] {MIN, -2, 2, MAX}) refused(BUSY, "book(" + c + ", 1)", -1, x -> x.book(c, 1));
        for (int t : new int[] {MIN, 0, 5, MAX}) refused(BUSY, "book(0, " + t + ")", -2, x -> x.book(0, t));
        refusedTapes();
    }

    private static void refusedTapes() {
        for (int t : new int[] {MIN, -1, 6, MAX}) {
            refused(BUSY, "tape(" + t + ", 0, 1)", -1, x -> x.tape(t, 0, 1));
            refused(BUSY, "item(" + t + ", 0, 1)", -1, x -> x.item(t, 0, 1));
            refused(BUSY, "shift(" + t + ", 0, 0, 0, 1)", -1, x -> x.shift(t, 0, 0, 0, 1));
            refused(BUSY, "shift(0, 0, " + t + ", 0, 1)", -1, x -> x.shift(0, 0, t, 0, 1));
        }
        for (int s : new int[] {MIN, -2, 5, MAX}) refused(BUSY, "tape(0, " + s + ", 1)", -2, x -> x.tape(0, s, 1));
        for (int n : new int[] {61, MAX}) refused(BUSY, "tape(0, 3, " + n + ")", -2, x -> x.tape(0, 3, n));
        for (int n : new int[] {-1, MIN}) refused(BUSY, "tape(0, 3, " + n + ")", -14, x -> x.tape(0, 3, n));
        for (int i : new int[] {MIN, -1, 4, 60, MAX}) refused(BUSY, "item(0, " + i + ", 1)", -13, x -> x.item(0, i, 1));
        refused(BUSY, "item(3, 0, 1)", -11, x -> x.item(3, 0, 1));
        refused(BUSY, "shift(0, 0, 3, 0, 1)", -11, x -> x.shift(0, 0, 3, 0, 1));
        refused(BUSY, "shift(0, 0, 1, 0, 1)", -12, x -> x.shift(0, 0, 1, 0, 1));
        refused(BUSY, "shift(0, 0, 2, 0, 3)", -13, x -> x.shift(0, 0, 2, 0, 3));
        refused(BUSY, "shift(0, 3, 2, 0, 2)", -13, x -> x.shift(0, 3, 2, 0, 2));
        refused(BUSY, "shift(0, -1, 2, 0, 2)", -13, x -> x.shift(0, -1, 2, 0, 2));
        refused(BUSY, "shift(0, 0, 2, -1, 2)", -13, x -> x.shift(0, 0, 2, -1, 2));
        refused(BUSY, "shift(0, 0, 2, 0, -1)", -13, x -> x.shift(0, 0, 2, 0, -1));
    }

    private static void refusedByAFullOne() {
        refused(FULL, "feed(97)", -4, x -> x.feed(97));
        refused(FULL, "line()", -4, x -> x.line());
        refused(FULL, "see(0, false)", -4, x -> x.see(0, false));
        refused(FULL, "plan(2, 0)", -4, x -> x.plan(2, 0));
        refused(FULL, "plan(1, -1)", -4, x -> x.plan(1, -1));
        refused(FULL, "book(0, 2)", -4, x -> x.book(0, 2));
        refused(FULL, "key(0)", -3, x -> x.key(0));
        refused(FULL, "undo()", -3, x -> x.undo());
    }

    // ---- questions

    private static void questions() {
        Due.sentence("what is asked changes nothing");
        for (int kind = NEW; kind <= FULL; kind++) {
            for (int n = -1; n <= 5; n++) asked(kind, n, n);
            for (int far : FAR) {
                asked(kind, far, 0);
                asked(kind, 0, far);
                asked(kind, far, far);
            }
        }
    }

    private static void asked(int kind, int n, int other) {
        FeatureImport x = object(kind);
        x.column(n, other);
        x.of(n, other);
        x.votes(n, other);
        x.fault(n, other);
        x.told(n);
        x.value(n, other);
        x.shown(n, other, n);
        x.feature(n, other);
        x.would(n, other);
        x.need(n, other);
        x.fits(n);
        x.odds(n);
        x.mean(n, other);
        x.ends(n);
        x.looked();
        x.judge(n, other, n);
        x.taken(n, other, n);
        x.count(n);
        x.read(n, other);
        same("what is asked with " + n + ", " + other + " of object " + kind, answersOf(x), answersOf(object(kind)));
    }
}
