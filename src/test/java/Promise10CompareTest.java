public final class Promise10CompareTest {
    private static final Due DUE = new Due("promise 10, compare");

    public static void main(String[] args) {
        DUE.sentence("-1 when line 0 is less than line 1", Promise10CompareTest::less);
        DUE.sentence("1 when line 1 is less than line 0", Promise10CompareTest::greater);
        DUE.sentence("the less number at the first place where the two differ", Promise10CompareTest::firstPlace);
        DUE.sentence("a line that begins as the other one does", Promise10CompareTest::beginning);
        DUE.sentence("0 when they are even: both lines are empty", Promise10CompareTest::bothEmpty);
        DUE.sentence("an empty line beside one that is not", Promise10CompareTest::oneEmpty);
        DUE.sentence("0 when they are even: the same texts", Promise10CompareTest::sameTexts);
        DUE.sentence("0 when they are even: other texts with the same key", Promise10CompareTest::sameKeys);
        DUE.sentence("even by a less strength alone", Promise10CompareTest::byStrength);
        DUE.sentence("by the forms as they are now", Promise10CompareTest::byForms);
        DUE.sentence("by the table as it is now", Promise10CompareTest::byTable);
        DUE.end();
    }

    private static void both(Driven x, String left, String right, int want) {
        DUE.is("compare() of '" + left + "' and '" + right + "'", x.compare(left, right), want);
        DUE.is("compare() of '" + right + "' and '" + left + "'", x.compare(right, left), -want);
    }

    private static void less() {
        Driven x = new Driven();
        String[] row = {" ", " -", "-", "a", "A", "a1", "aa", "b", "h", "H"};
        for (int i = 1; i < row.length; i++) {
            DUE.is("compare() of '" + row[i - 1] + "' and '" + row[i] + "'", x.compare(row[i - 1], row[i]), -1);
        }
    }

    private static void greater() {
        Driven x = new Driven();
        String[] row = {"H", "h", "b", "aa", "a1", "A", "a", "-", " -", " "};
        for (int i = 1; i < row.length; i++) {
            DUE.is("compare() of '" + row[i - 1] + "' and '" + row[i] + "'", x.compare(row[i - 1], row[i]), 1);
        }
    }

    private static void firstPlace() {
        Driven x = new Driven();
        both(x, "Ab", "aB", 1);
        both(x, "a1", "A", 1);
        both(x, "a2b", "a1c", -1);
        both(x, "a21", "a12", 1);
        both(x, "bh", "ca", -1);
        both(x, "H", "h", 1);
        both(x, "a4", "ab", -1);
        both(x, "abcdefghabca", "abcdefghabcA", -1);
    }

    private static void beginning() {
        Driven x = new Driven();
        both(x, "ab", "abc", -1);
        both(x, "ab", "ab1", -1);
        both(x, "ab", "ab ", -1);
        both(x, "A", "ab", -1);
        both(x, "a", "aaaaaaaaaaaa", -1);
    }

    private static void bothEmpty() {
        Driven x = new Driven();
        DUE.is("compare() of new lines", x.compare(), 0);
        for (int strength = 1; strength <= 4; strength++) {
            x.form(strength, true, true);
            DUE.is("compare() at " + strength, x.compare(), 0);
        }
        x.compare("ab", "a");
        x.wipe(0);
        x.wipe(1);
        DUE.is("compare() of wiped lines", x.compare(), 0);
    }

    private static void oneEmpty() {
        Driven x = new Driven();
        both(x, "", "a", -1);
        both(x, "", " ", -1);
        both(x, "", "1", -1);
        x.form(1, false, false);
        both(x, "", "1", 0);
        both(x, "", " ", -1);
        x.form(3, true, false);
        both(x, "", "- ", 0);
        both(x, "", "-1", 0);
        x.form(4, true, false);
        both(x, "", "- ", -1);
    }

    private static void sameTexts() {
        Driven x = new Driven();
        for (String text : new String[] {"a", "-", "1", "aB1-2h", "abcdefghABCD"}) {
            DUE.is("compare() of " + text + " twice", x.compare(text, text), 0);
        }
    }

    private static void sameKeys() {
        Driven x = new Driven().with("&c<b=d");
        both(x, "a31", "a13", 0);
        both(x, "3142", "1234", 0);
        both(x, "b", "d", 0);
        both(x, "bdb", "dbd", 0);
    }

    private static void byStrength() {
        Driven x = new Driven();
        x.form(1, false, false);
        both(x, "a1", "A", 0);
        both(x, "aB", "Ab3", 0);
        both(x, "a", "b", -1);
        x.form(2, false, false);
        both(x, "a1", "A", 1);
        both(x, "aB", "Ab", 0);
        x.form(3, false, false);
        both(x, "aB", "Ab", -1);
    }

    private static void byForms() {
        Driven x = new Driven();
        x.form(2, false, true);
        both(x, "a1b", "ab1", -1);
        x.form(2, false, false);
        both(x, "a1b", "ab1", 1);
        x.form(3, true, false);
        both(x, "a-1b", "ab", 0);
        x.form(4, true, false);
        both(x, "a-1b", "ab", -1);
        both(x, "a b", "a-b", -1);
        both(x, "ab-", "ab", 1);
        x.form(3, false, false);
        both(x, "a-1b", "ab", -1);
    }

    private static void byTable() {
        Driven x = new Driven();
        both(x, "b", "c", -1);
        x.with("&c<b");
        DUE.is("compare() of the same lines behind &c<b", x.compare(), -1);
        both(x, "b", "c", 1);
        x.rule("&b<c<c");
        both(x, "b", "c", 1);
        both(x, "B", "C", -1);
    }
}
