public final class Promise15BelowTest {
    private static final Due DUE = new Due("promise 15, below");

    public static void main(String[] args) {
        DUE.sentence("How many texts of the file are less than line 0 or 1", Promise15BelowTest::howMany);
        DUE.sentence("less: none, and all ten", Promise15BelowTest::noneAndAll);
        DUE.sentence("less: even ones are not", Promise15BelowTest::evenTexts);
        DUE.sentence("an empty line", Promise15BelowTest::emptyLine);
        DUE.sentence("an empty file", Promise15BelowTest::emptyFile);
        DUE.sentence("texts that were taken out do not count", Promise15BelowTest::takenOut);
        DUE.sentence("by the forms and the table as they are now", Promise15BelowTest::asTheyAreNow);
        DUE.sentence("-1 for another line", Promise15BelowTest::anotherLine);
        DUE.end();
    }

    private static Driven withTexts() {
        Driven x = new Driven();
        for (String text : new String[] {"b", "a", "B", "a", "-", "c1"}) {
            x.file(text);
        }
        return x;
    }

    private static void below(Driven x, String text, int want) {
        x.write(0, text);
        x.wipe(1);
        DUE.is("below(0) of '" + text + "'", x.below(0), want);
        x.write(1, text);
        x.wipe(0);
        DUE.is("below(1) of '" + text + "'", x.below(1), want);
    }

    private static void howMany() {
        Driven x = withTexts();
        below(x, " ", 0);
        below(x, "a1", 3);
        below(x, "A", 3);
        below(x, "b1", 5);
        below(x, "c", 5);
        below(x, "c2", 6);
        x.write(0, "h");
        x.write(1, "a");
        DUE.is("below(0) of h", x.below(0), 6);
        DUE.is("below(1) of a", x.below(1), 1);
        DUE.is("filed()", x.filed(), 6);
    }

    private static void noneAndAll() {
        Driven x = new Driven();
        for (int number = 0; number < 10; number++) {
            x.file("b");
        }
        below(x, "a", 0);
        below(x, "B", 10);
        below(x, "H", 10);
    }

    private static void evenTexts() {
        Driven x = withTexts();
        below(x, "-", 0);
        below(x, "a", 1);
        below(x, "b", 3);
        below(x, "B", 4);
        below(x, "c1", 5);
        Driven y = new Driven().with("&b=c");
        y.file("b");
        y.file("c");
        y.file("a31");
        below(y, "c", 1);
        below(y, "a13", 0);
    }

    private static void emptyLine() {
        Driven x = withTexts();
        below(x, "", 0);
        x.file("");
        x.file("1");
        below(x, "", 0);
        below(x, "1", 1);
        below(x, "2", 2);
    }

    private static void emptyFile() {
        Driven x = new Driven();
        DUE.is("below(0) of an empty line", x.below(0), 0);
        DUE.is("below(1) of an empty line", x.below(1), 0);
        below(x, "H", 0);
        x.file("a");
        below(x, "H", 1);
        x.unfile(0);
        below(x, "H", 0);
    }

    private static void takenOut() {
        Driven x = withTexts();
        below(x, "b", 3);
        x.unfile(1);
        below(x, "b", 2);
        x.unfile(5);
        below(x, "h", 4);
        x.file("c");
        below(x, "h", 5);
    }

    private static void asTheyAreNow() {
        Driven x = withTexts();
        x.form(1, false, false);
        below(x, "B", 3);
        below(x, "c", 5);
        x.form(3, true, false);
        below(x, "a", 1);
        below(x, "", 0);
        x.form(4, true, false);
        below(x, "", 0);
        below(x, " ", 0);
        x.form(3, false, false);
        x.with("&c<b");
        below(x, "b", 5);
        below(x, "B", 3);
    }

    private static void anotherLine() {
        Driven x = withTexts();
        x.write(2, "h");
        for (int line : new int[] {-1, 2, 3, Integer.MIN_VALUE, Integer.MAX_VALUE}) {
            DUE.is("below(" + line + ")", x.below(line), -1);
            DUE.is("below(" + line + ") of an empty file", new Driven().below(line), -1);
        }
    }
}
