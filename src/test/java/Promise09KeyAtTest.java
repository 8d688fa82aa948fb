public final class Promise09KeyAtTest {
    private static final Due DUE = new Due("promise 9, keyAt");

    public static void main(String[] args) {
        places();
        marksAreArranged();
        longestStrings();
        marksBehind();
        shifted();
        backward();
        byTheTableAsItIs();
        DUE.end();
    }

    private static void places() {
        TailoredOrder x = new TailoredOrder();
        Due.write(x, 0, "aB");
        Due.write(x, 1, "H");
        int[] key = {3, 4, 0, 1, 1, 0, 1, 2, 0};
        for (int i = -2; i < 12; i++) {
            int want = i >= 0 && i < key.length ? key[i] : -1;
            DUE.is("keyAt(0, " + i + ")", x.keyAt(0, i), want);
        }
        for (int i : new int[] {Integer.MIN_VALUE, 51, 52, 53, Integer.MAX_VALUE}) {
            DUE.is("keyAt(0, " + i + ")", x.keyAt(0, i), -1);
        }
        for (int line : new int[] {-1, 2, 3, Integer.MIN_VALUE, Integer.MAX_VALUE}) {
            DUE.is("keyAt(" + line + ", 0)", x.keyAt(line, 0), -1);
        }
        DUE.is("the key of line 1", Due.key(x, 1), "10 0 1 0 2 0");
    }

    private static TailoredOrder second(String... rules) {
        TailoredOrder x = new TailoredOrder();
        for (String rule : rules) {
            if (Due.rule(x, rule) < 0) {
                throw new IllegalStateException(rule);
            }
        }
        x.form(2, false, false);
        return x;
    }

    private static void key(TailoredOrder x, String text, String want) {
        DUE.is("the key of " + text, Due.keyOf(x, text), want);
    }

    private static void marksAreArranged() {
        TailoredOrder x = second();
        key(x, "1", "0 101 0");
        key(x, "31", "0 101 103 0");
        key(x, "4321", "0 102 101 104 103 0");
        key(x, "3142", "0 101 102 103 104 0");
        key(x, "43a43", "3 0 104 103 1 104 103 0");
        key(x, "3a1", "3 0 103 1 101 0");
        key(x, "a3-1", "3 2 0 1 103 1 101 0");
        key(x, "342134214321", "0 102 101 102 101 102 101 103 104 103 104 104 103 0");
    }

    private static void longestStrings() {
        // - a A ab abc bc b B c C cd d
        TailoredOrder x = second("&a<ab<abc<bc", "&C<cd");
        key(x, "ab", "4 0 1 0");
        key(x, "abc", "5 0 1 0");
        key(x, "abd", "4 10 0 1 1 0");
        key(x, "abcd", "5 10 0 1 1 0");
        key(x, "acd", "3 9 0 1 1 0");
        key(x, "bcd", "6 10 0 1 1 0");
        key(x, "aabbc", "3 4 6 0 1 1 1 0");
        key(x, "aB", "3 7 0 1 1 0");
        key(x, "a1b", "3 7 0 1 101 1 0");
        key(x, "a-b", "3 2 7 0 1 1 1 0");
        key(x, "ab1c", "4 8 0 1 101 1 0");
        // Without the string of two, that of three is found all the same.
        TailoredOrder y = second("&a<abc");
        key(y, "ababc", "3 5 4 0 1 1 1 0");
        // A string may have marks inside it and at its end.
        TailoredOrder z = second("&a<a1b<a3");
        key(z, "a1b", "4 0 1 0");
        key(z, "a1c", "3 7 0 1 101 1 0");
        key(z, "a3b", "5 6 0 1 1 0");
        key(z, "a31b", "5 6 0 1 101 1 0");
    }

    private static void marksBehind() {
        // - a A a1 a3 a13 ab ab4
        TailoredOrder x = second("&a<a1<a3<a13<ab<ab4");
        key(x, "a1", "4 0 1 0");
        key(x, "a13", "6 0 1 0");
        key(x, "a31", "6 0 1 0");
        key(x, "a23", "5 0 1 102 0");
        key(x, "a21", "3 0 1 102 101 0");
        key(x, "a213", "5 0 1 102 101 0");
        key(x, "a123", "6 0 1 102 0");
        key(x, "a143", "4 0 1 104 103 0");
        key(x, "a113", "6 0 1 101 0");
        key(x, "a1133", "6 0 1 101 103 0");
        key(x, "a43", "3 0 1 104 103 0");
        key(x, "ab14", "8 0 1 101 0");
        key(x, "ab41", "8 0 1 101 0");
        key(x, "ab34", "7 0 1 103 104 0");
        key(x, "1a1", "4 0 101 1 0");
        key(x, "a-1", "3 2 0 1 1 101 0");
        key(x, "a23b13", "5 9 0 1 102 1 101 103 0");
        // A string of three takes no mark more, and marks in an order that texts never have are never found.
        TailoredOrder y = second("&a<abc<a31<b11");
        key(y, "abc1", "4 0 1 101 0");
        key(y, "a31", "3 0 1 101 103 0");
        key(y, "b11", "6 0 1 0");
        key(y, "b1", "7 0 1 101 0");
        key(y, "b131", "6 0 1 103 0");
        // One taken leads on to the next, behind one that was passed over.
        TailoredOrder z = second("&a<a3<a34");
        key(z, "a2341", "5 0 1 102 101 0");
        key(z, "a34", "5 0 1 0");
        key(z, "a43", "3 0 1 104 103 0");
        key(z, "a3434", "5 0 1 103 104 0");
    }

    private static void shifted() {
        TailoredOrder x = second("&b<b1");
        x.form(4, true, false);
        key(x, "", "0 0 0 0");
        key(x, " -", "0 0 0 1 2 0");
        key(x, "1", "0 101 0 1 0 0");
        key(x, "1-", "0 101 0 1 0 2 0");
        key(x, "-1", "0 0 0 2 0");
        key(x, "-31a2", "3 0 1 102 0 1 1 0 2 1000 0");
        key(x, "a1-2b3", "3 4 0 1 101 1 103 0 1 1 1 1 0 1000 2 1000 0");
        key(x, "-b12", "5 0 1 102 0 1 1 0 2 1000 0");
        key(x, "b1-1", "5 0 1 0 1 0 1000 2 0");
        x.form(4, false, false);
        key(x, " -1a", "1 2 3 0 1 1 101 1 0 1 1 1 1 0 0");
        x.form(3, true, false);
        key(x, " -1a", "3 0 1 0 1 0");
    }

    private static void backward() {
        TailoredOrder x = second("&a<<a1", "&B<<<bc");
        x.form(4, true, true);
        key(x, "A1b2-3bc4", "3 4 4 0 104 1 102 1 101 1 0 2 1 1 1 3 1 0 1000 1000 2 1000 0");
        key(x, "a1bc", "3 4 0 1 2 0 1 3 0 1000 1000 0");
    }

    private static void byTheTableAsItIs() {
        TailoredOrder x = second();
        key(x, "bab", "4 3 4 0 1 1 1 0");
        Due.rule(x, "&a<ba");
        DUE.is("the key of bab behind &a<ba", Due.key(x, 0), "4 5 0 1 1 0");
        Due.rule(x, "&b<<ba");
        DUE.is("the key of bab behind &b<<ba", Due.key(x, 0), "4 4 0 2 1 0");
        Due.rule(x, "&b<<a<ba<ba");
        DUE.is("the key of bab behind a refusal", Due.key(x, 0), "4 4 0 2 1 0");
    }
}
