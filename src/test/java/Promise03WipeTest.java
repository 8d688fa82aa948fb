public final class Promise03WipeTest {
    private static final Due DUE = new Due("promise 3, wipe");

    public static void main(String[] args) {
        DUE.sentence("The line is empty", Promise03WipeTest::lineIsEmpty);
        DUE.sentence("how many characters it had", Promise03WipeTest::howMany);
        DUE.sentence("how many characters it had: an empty one, a full one", Promise03WipeTest::emptyAndFull);
        DUE.sentence("-1 when there is no such line", Promise03WipeTest::noSuchLine);
        DUE.sentence("the other lines stay", Promise03WipeTest::others);
        DUE.end();
    }

    private static void lineIsEmpty() {
        Driven x = new Driven();
        x.write(0, "abc");
        x.write(1, "ab");
        x.write(2, "&a<b");
        for (int line = 0; line < 3; line++) {
            x.wipe(line);
        }
        DUE.is("the key of line 0", x.key(0), "0 0 0");
        DUE.is("the key of line 1", x.key(1), "0 0 0");
        DUE.is("tailor()", x.tailor(), -1);
        DUE.is("the table", x.table(), Driven.FIRST_TABLE);
        x.add(0, "b");
        DUE.is("the key of what is typed next", x.key(0), "4 0 1 0 1 0");
    }

    private static void howMany() {
        for (int line = 0; line < 3; line++) {
            Driven x = new Driven();
            for (int length = 1; length <= 12; length++) {
                x.add(line, "abcdefgh1234".substring(0, length));
                DUE.is("wipe(" + line + ") of " + length, x.wipe(line), length);
            }
        }
    }

    private static void emptyAndFull() {
        Driven x = new Driven();
        int[] limits = {12, 12, 24};
        for (int line = 0; line < 3; line++) {
            DUE.is("wipe(" + line + ") of an empty line", x.wipe(line), 0);
            x.add(line, "aaaaaaaaaaaaaaaaaaaaaaaa".substring(0, limits[line]));
            DUE.is("wipe(" + line + ") of a full line", x.wipe(line), limits[line]);
            DUE.is("wipe(" + line + ") again", x.wipe(line), 0);
        }
    }

    private static void noSuchLine() {
        Driven x = new Driven();
        x.write(0, "abc");
        x.write(1, "ab");
        x.write(2, "&a<b");
        for (int line : new int[] {-1, 3, -2, 4, Integer.MIN_VALUE, Integer.MAX_VALUE}) {
            DUE.is("wipe(" + line + ")", x.wipe(line), -1);
        }
        DUE.is("wipe(0)", x.wipe(0), 3);
        DUE.is("wipe(1)", x.wipe(1), 2);
        DUE.is("wipe(2)", x.wipe(2), 4);
    }

    private static void others() {
        for (int wiped = 0; wiped < 3; wiped++) {
            Driven x = new Driven();
            for (int line = 0; line < 3; line++) {
                x.add(line, "ab");
            }
            x.wipe(wiped);
            for (int line = 0; line < 3; line++) {
                DUE.is("wipe(" + line + ") behind wipe(" + wiped + ")", x.wipe(line), line == wiped ? 0 : 2);
            }
        }
        Driven y = new Driven();
        y.file("b");
        y.wipe(0);
        DUE.is("a filed text stays", y.filed() + " " + y.below(0), "1 0");
    }
}
