/** Makes objects with a head and lines, as texts. */
final class Given {
    private Given() {
    }

    static FeatureImport nothing() {
        Due.newObject();
        return new FeatureImport();
    }

    static FeatureImport table(String head, String... lines) {
        FeatureImport x = nothing();
        feed(x, head);
        int columns = head.split(",").length;
        Due.is("head() of " + head, x.head(), columns);
        lines(x, lines);
        return x;
    }

    static void lines(FeatureImport x, String... lines) {
        for (String line : lines) {
            int number = x.count(0);
            Due.called(1);
            Due.is("line() of " + line, line(x, line), number);
        }
    }

    static int head(FeatureImport x, String text) {
        feed(x, text);
        return x.head();
    }

    static int line(FeatureImport x, String text) {
        feed(x, text);
        return x.line();
    }

    static void feed(FeatureImport x, String text) {
        for (int i = 0; i < text.length(); i++) x.feed(text.charAt(i));
        Due.called(text.length());
    }

    /** The signs that shown answers, up to the first that is none. */
    static String shown(FeatureImport x, int row, int column) {
        StringBuilder signs = new StringBuilder();
        for (int i = 0; i < 20; i++) {
            Due.called(1);
            int sign = x.shown(row, column, i);
            if (sign == FeatureImport.NONE) break;
            signs.append((char) sign);
        }
        return signs.toString();
    }

    static void shows(FeatureImport x, int row, int column, String want) {
        String got = shown(x, row, column);
        if (!got.equals(want)) {
            Due.fail("shown(" + row + ", " + column + ", ..) is '" + got + "', due is '" + want + "'");
        }
    }
}
