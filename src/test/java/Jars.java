/** Short ways to write texts and plans on sheets. */
final class Jars {
    static final long LOST = FortyJars.LOST;
    static final int UNKNOWN = FortyJars.UNKNOWN, OUTSIDE = FortyJars.OUTSIDE, STATE = FortyJars.STATE;
    static final int FULL = FortyJars.FULL, NONE = FortyJars.NONE;
    static final int NULL = -11, CAST = -12, INDEX = -13, SIZE = -14;

    /** A sheet that neither texts nor plans of these tests need again. */
    static final int SHEET = 3;

    private Jars() {
    }

    static void write(FortyJars x, int k, int lane, int... numbers) {
        x.sheet(k, lane, numbers.length);
        for (int i = 0; i < numbers.length; i++) x.put(k, i, numbers[i]);
    }

    static void write(FortyJars x, int k, int lane, String text) {
        write(x, k, lane, text.chars().toArray());
    }

    static int take(FortyJars x, String text) {
        write(x, SHEET, 0, text);
        return x.yard(SHEET, 0, 0, text.length());
    }

    static FortyJars of(String text) {
        FortyJars x = new FortyJars();
        int men = take(x, text);
        if (men < 0) throw new IllegalArgumentException("not a text: " + text);
        return x;
    }

    static int take(Model y, String text) {
        y.sheet(SHEET, 0, text.length());
        for (int i = 0; i < text.length(); i++) y.put(SHEET, i, text.charAt(i));
        return y.yard(SHEET, 0, 0, text.length());
    }

    static int plan(FortyJars x, int what, int... steps) {
        write(x, SHEET, 2, steps);
        return x.plan(SHEET, 2, 0, steps.length, what);
    }

    static long odds(FortyJars x, int which, int... steps) {
        write(x, SHEET, 2, steps);
        return x.odds(SHEET, 2, 0, steps.length, which);
    }
}
