public final class Promise07FormTest {
    public static void main(String[] args) {
        Due due = new Due("promise 7, form");
        TailoredOrder x = new TailoredOrder();
        Due.write(x, 0, "A1-b");
        String notShifted = "3 2 4 0 1 101 1 1 0 2 1 1 1 0 0";
        for (int strength = 1; strength <= 4; strength++) {
            due.is("form(" + strength + ")", x.form(strength, false, false), true);
            due.is("the key at " + strength, Due.key(x, 0), firstLevels(notShifted, strength));
        }
        due.is("form(4, true, false)", x.form(4, true, false), true);
        String shifted = "3 4 0 1 101 1 0 2 1 1 0 1000 2 1000 0";
        due.is("the key", Due.key(x, 0), shifted);
        for (int strength : new int[] {0, 5, -1, 6, Integer.MIN_VALUE, Integer.MAX_VALUE}) {
            due.is("form(" + strength + ", false, true)", x.form(strength, false, true), false);
            due.is("the key stays", Due.key(x, 0), shifted);
        }
        due.is("form(4, true, true)", x.form(4, true, true), true);
        due.is("the key", Due.key(x, 0), "3 4 0 1 101 1 0 2 1 1 0 1000 2 1000 0");
        due.is("the key of ab1", Due.keyOf(x, "ab1"), "3 4 0 101 1 1 0 1 1 1 0 1000 1000 0");
        due.is("form(2, false, true)", x.form(2, false, true), true);
        due.is("the key of -ab1", Due.keyOf(x, "-ab1"), "2 3 4 0 101 1 1 1 0");
        due.is("form(2, false, false)", x.form(2, false, false), true);
        due.is("the key of -ab1", Due.keyOf(x, "-ab1"), "2 3 4 0 1 1 1 101 0");
        due.end();
    }

    private static String firstLevels(String key, int levels) {
        StringBuilder row = new StringBuilder();
        int zeros = 0;
        for (String number : key.split(" ")) {
            if (zeros < levels) {
                row.append(row.length() == 0 ? "" : " ").append(number);
            }
            zeros += number.equals("0") ? 1 : 0;
        }
        return row.toString();
    }
}
