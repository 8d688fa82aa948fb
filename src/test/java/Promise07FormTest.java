public final class Promise07FormTest {
    private static final Due DUE = new Due("promise 7, form");
    private static final String NOT_SHIFTED = "3 2 4 0 1 101 1 1 102 0 2 1 1 1 1 0 0";
    private static final String SHIFTED = "3 4 0 1 101 1 102 0 2 1 1 1 0 1000 2 1000 0";
    private static final String SHIFTED_BACKWARD = "3 4 0 102 1 101 1 0 2 1 1 1 0 1000 2 1000 0";

    public static void main(String[] args) {
        DUE.sentence("The strength from now on: true, 1 .. 4", Promise07FormTest::strengths);
        DUE.sentence("The forms from now on: true", Promise07FormTest::forms);
        DUE.sentence("from now on: up to the next call, whatever comes between", Promise07FormTest::fromNowOn);
        DUE.sentence("False when strength is not 1 .. 4", Promise07FormTest::noStrength);
        DUE.sentence("refused: the strength and the forms stay", Promise07FormTest::refused);
        DUE.sentence("refused: those of a new object stay", Promise07FormTest::refusedByANewObject);
        DUE.end();
    }

    private static String firstLevels(String key, int levels) {
        StringBuilder row = new StringBuilder();
        int zeros = 0;
        for (String number : key.split(" ")) {
            if (zeros < levels) {
                row.append(row.length() == 0 ? "" : " ").append(number);
            }
            zeros += number.equals("0") ? 1 : 0;
        }
        return row.toString();
    }

    private static Driven withText() {
        Driven x = new Driven();
        x.write(0, "A1-b2");
        return x;
    }

    private static void strengths() {
        Driven x = withText();
        for (int strength : new int[] {1, 4, 2, 3, 1}) {
            DUE.is("form(" + strength + ")", x.form(strength, false, false), true);
            DUE.is("the key at " + strength, x.key(0), firstLevels(NOT_SHIFTED, strength));
            DUE.is("form(" + strength + "), shifted", x.form(strength, true, false), true);
            DUE.is("the key at " + strength, x.key(0), firstLevels(SHIFTED, strength));
        }
    }

    private static void forms() {
        Driven x = withText();
        DUE.is("form(4, true, false)", x.form(4, true, false), true);
        DUE.is("the key, shifted", x.key(0), SHIFTED);
        DUE.is("form(4, true, true)", x.form(4, true, true), true);
        DUE.is("the key, shifted and backward", x.key(0), SHIFTED_BACKWARD);
        DUE.is("form(4, false, true)", x.form(4, false, true), true);
        DUE.is("the key, backward", x.key(0), "3 2 4 0 102 1 1 101 1 0 2 1 1 1 1 0 0");
        DUE.is("form(4, false, false)", x.form(4, false, false), true);
        DUE.is("the key", x.key(0), NOT_SHIFTED);
    }

    private static void fromNowOn() {
        Driven x = withText();
        x.form(4, true, true);
        x.with("&g<h");
        x.rule("&g<g");
        x.file(0);
        x.unfile(0);
        x.write(1, "c");
        x.write(0, "A1-b2");
        DUE.is("the key behind other calls", x.key(0), SHIFTED_BACKWARD);
        DUE.is("the key of line 1", x.key(1), "5 0 1 0 1 0 1000 0");
    }

    private static void noStrength() {
        Driven x = new Driven();
        for (int strength : new int[] {0, 5, -1, 6, Integer.MIN_VALUE, Integer.MAX_VALUE}) {
            DUE.is("form(" + strength + ", false, false)", x.form(strength, false, false), false);
            DUE.is("form(" + strength + ", true, true)", x.form(strength, true, true), false);
        }
    }

    private static void refused() {
        for (int strength : new int[] {0, 5, -1, Integer.MIN_VALUE, Integer.MAX_VALUE}) {
            Driven x = withText();
            x.form(4, true, true);
            DUE.is("form(" + strength + ", false, false)", x.form(strength, false, false), false);
            DUE.is("the key stays", x.key(0), SHIFTED_BACKWARD);
            x.form(4, false, false);
            DUE.is("form(" + strength + ", true, true)", x.form(strength, true, true), false);
            DUE.is("the key stays", x.key(0), NOT_SHIFTED);
            x.form(1, true, false);
            DUE.is("form(" + strength + ", false, true)", x.form(strength, false, true), false);
            DUE.is("the key stays", x.key(0), "3 4 0");
        }
    }

    private static void refusedByANewObject() {
        for (int strength : new int[] {0, 5}) {
            Driven x = withText();
            DUE.is("form(" + strength + ", true, true)", x.form(strength, true, true), false);
            DUE.is("the key stays", x.key(0), firstLevels(NOT_SHIFTED, 3));
        }
    }
}
