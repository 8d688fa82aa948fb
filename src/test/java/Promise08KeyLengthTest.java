public final class Promise08KeyLengthTest {
    public static void main(String[] args) {
        Due due = new Due("promise 8, keyLength");
        TailoredOrder x = new TailoredOrder();
        Due.write(x, 0, "ab1");
        Due.write(x, 2, "&a<b");
        int[] lengths = {3, 7, 11, 12};
        int[] empty = {1, 2, 3, 4};
        for (int strength = 1; strength <= 4; strength++) {
            x.form(strength, false, false);
            due.is("keyLength(0) at " + strength, x.keyLength(0), lengths[strength - 1]);
            due.is("keyLength(1) at " + strength, x.keyLength(1), empty[strength - 1]);
        }
        for (int line : new int[] {-1, 2, 3, Integer.MIN_VALUE, Integer.MAX_VALUE}) {
            due.is("keyLength(" + line + ")", x.keyLength(line), -1);
        }
        x.form(4, true, false);
        Due.write(x, 1, "abcdefghABCD");
        due.is("the longest key", x.keyLength(1), 52);
        Due.write(x, 1, "------------");
        due.is("of variables, shifted", x.keyLength(1), 16);
        Due.write(x, 1, "-1234123412 ");
        due.is("of marks behind a variable, shifted", x.keyLength(1), 6);
        x.form(4, false, false);
        due.is("of the same, not shifted", x.keyLength(1), 30);
        due.end();
    }
}
