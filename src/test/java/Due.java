/** Compares answers with those that are due, and counts the calls of the object at hand. */
final class Due {
    static final long NO = Long.MIN_VALUE;

    // The document promises 512 calls an object; the margin is for calls made without Due.
    private static final int CALLS = 480;

    private static int wrong = 0;
    private static int calls = 0;
    private static String sentence = "";

    private Due() {
    }

    /** The sentence of the document that is looked at from here on. */
    static void sentence(String words) {
        sentence = words + ": ";
    }

    static void newObject() {
        calls = 0;
    }

    static void called(int n) {
        calls += n;
        if (calls > CALLS) throw new IllegalStateException("a test asks too much of one object");
    }

    static void is(String call, long got, long want) {
        called(1);
        if (got != want) fail(call + " answered " + got + ", due is " + want);
    }

    static void fail(String what) {
        wrong++;
        System.out.println(sentence + what);
    }

    static void end() {
        System.out.println(wrong == 0 ? "all answers are as due" : wrong + " answers are not as due");
        if (wrong != 0) System.exit(1);
    }
}
