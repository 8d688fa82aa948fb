public final class Promise10CompareTest {
    private static final Due DUE = new Due("promise 10, compare");

    public static void main(String[] args) {
        TailoredOrder x = new TailoredOrder();
        both(x, "", "", 0);
        both(x, "", "a", -1);
        both(x, "", "1", -1);
        both(x, "a", "A", -1);
        both(x, "A", "b", -1);
        both(x, "Ab", "aB", 1);
        both(x, "ab", "abc", -1);
        both(x, "a1", "a", 1);
        both(x, "a1", "ab", -1);
        both(x, "a1", "A", 1);
        both(x, "a31", "a13", 0);
        both(x, "a21", "a12", 1);
        both(x, " ", "-", -1);
        both(x, "-", "a", -1);
        both(x, "H", "h", 1);

        x.form(1, false, false);
        both(x, "a1", "A", 0);
        both(x, "aB", "Ab3", 0);
        x.form(2, false, true);
        both(x, "a1b", "ab1", -1);
        x.form(2, false, false);
        both(x, "a1b", "ab1", 1);
        x.form(3, true, false);
        both(x, "a-1b", "ab", 0);
        x.form(4, true, false);
        both(x, "a-1b", "ab", -1);
        both(x, "a b", "a-b", -1);
        both(x, "ab-", "ab", 1);

        x.form(3, false, false);
        Due.rule(x, "&c<b=d");
        both(x, "b", "c", 1);
        both(x, "b", "d", 0);
        both(x, "B", "C", -1);
        DUE.end();
    }

    private static void both(TailoredOrder x, String left, String right, int want) {
        DUE.is("compare() of '" + left + "' and '" + right + "'", Due.compare(x, left, right), want);
        DUE.is("compare() of '" + right + "' and '" + left + "'", Due.compare(x, right, left), -want);
    }
}
