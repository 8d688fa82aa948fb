public final class Promise08KeyLengthTest {
    private static final Due DUE = new Due("promise 8, keyLength");

    public static void main(String[] args) {
        DUE.sentence("How many numbers the key of line 0 or 1 has", Promise08KeyLengthTest::lengths);
        DUE.sentence("How many numbers: an empty line has a 0 for each level", Promise08KeyLengthTest::emptyLine);
        DUE.sentence("How many numbers: a full line", Promise08KeyLengthTest::fullLine);
        DUE.sentence("How many numbers: weights that are 0 are none", Promise08KeyLengthTest::noZeros);
        DUE.sentence("-1 for another line", Promise08KeyLengthTest::anotherLine);
        DUE.end();
    }

    private static void lengths() {
        Driven x = new Driven();
        x.write(0, "ab1");
        x.write(1, "-");
        int[] first = {3, 7, 11, 12};
        int[] second = {2, 4, 6, 7};
        for (int strength = 1; strength <= 4; strength++) {
            x.form(strength, false, false);
            DUE.is("keyLength(0) at " + strength, x.keyLength(0), first[strength - 1]);
            DUE.is("keyLength(1) at " + strength, x.keyLength(1), second[strength - 1]);
        }
        x.form(3, false, false);
        x.with("&a<ab");
        DUE.is("keyLength(0) with an entry ab", x.keyLength(0), 8);
        x.wipe(0);
        x.type(0, 'a');
        DUE.is("keyLength(0) of a shorter text", x.keyLength(0), 6);
    }

    private static void emptyLine() {
        Driven x = new Driven();
        DUE.is("keyLength(0)", x.keyLength(0), 3);
        for (int strength = 1; strength <= 4; strength++) {
            x.form(strength, strength % 2 == 0, true);
            DUE.is("keyLength(0) at " + strength, x.keyLength(0), strength);
            DUE.is("keyLength(1) at " + strength, x.keyLength(1), strength);
        }
    }

    private static void fullLine() {
        Driven x = new Driven();
        x.form(4, true, false);
        x.write(0, "abcdefghABCD");
        x.write(1, "HHHHHHHHHHHH");
        DUE.is("the longest key of line 0", x.keyLength(0), 52);
        DUE.is("the longest key of line 1", x.keyLength(1), 52);
        x.write(1, "123412341234");
        DUE.is("of marks", x.keyLength(1), 28);
        x.form(4, false, true);
        DUE.is("of letters, not shifted", x.keyLength(0), 40);
        x.form(1, false, true);
        DUE.is("of letters, strength 1", x.keyLength(0), 13);
        DUE.is("of marks, strength 1", x.keyLength(1), 1);
    }

    private static void noZeros() {
        Driven x = new Driven();
        x.form(4, true, false);
        x.write(1, "------------");
        DUE.is("of variables, shifted", x.keyLength(1), 16);
        x.write(1, "-1234123412 ");
        DUE.is("of marks behind a variable, shifted", x.keyLength(1), 6);
        x.form(4, false, false);
        DUE.is("of the same, not shifted", x.keyLength(1), 30);
    }

    private static void anotherLine() {
        Driven x = new Driven();
        x.write(0, "ab1");
        x.write(1, "ab");
        x.write(2, "&a<b");
        for (int line : new int[] {-1, 2, 3, Integer.MIN_VALUE, Integer.MAX_VALUE}) {
            DUE.is("keyLength(" + line + ")", x.keyLength(line), -1);
        }
        x.wipe(2);
        DUE.is("keyLength(2) of an empty line", x.keyLength(2), -1);
        x.add(2, "ab");
        DUE.is("keyLength(2) of characters", x.keyLength(2), -1);
    }
}
