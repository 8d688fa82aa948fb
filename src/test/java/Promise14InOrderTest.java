public final class Promise14InOrderTest {
    private static final Due DUE = new Due("promise 14, inOrder");

    public static void main(String[] args) {
        DUE.sentence("the less ones first", Promise14InOrderTest::lessFirst);
        DUE.sentence("of even ones that with the less number", Promise14InOrderTest::evenTexts);
        DUE.sentence("of even ones that with the less number: ten of them", Promise14InOrderTest::tenEvenTexts);
        DUE.sentence("of even ones that with the less number: when texts were taken out",
            Promise14InOrderTest::evenTextsBehindTakingOut);
        DUE.sentence("by the forms as they are now", Promise14InOrderTest::byForms);
        DUE.sentence("by the table as it is now", Promise14InOrderTest::byTable);
        DUE.sentence("-1 when there is none: an empty file", Promise14InOrderTest::emptyFile);
        DUE.sentence("-1 when there is none: no such place", Promise14InOrderTest::noSuchPlace);
        DUE.sentence("-1 when there is none: a place that was there before", Promise14InOrderTest::placeBefore);
        DUE.end();
    }

    private static Driven withTen() {
        Driven x = new Driven();
        for (String text : new String[] {"b", "B", "a1", "a", "b", "ab", "-a", "A", "", "a31"}) {
            x.file(text);
        }
        return x;
    }

    private static void lessFirst() {
        DUE.is("the order", withTen().order(), "8 6 3 7 2 9 5 0 4 1");
        Driven x = new Driven();
        for (String text : new String[] {"h", "g", "f", "e", "d", "c", "b", "a", "-", " "}) {
            x.file(text);
        }
        DUE.is("the order, turned round", x.order(), "9 8 7 6 5 4 3 2 1 0");
    }

    private static void evenTexts() {
        Driven x = new Driven().with("&b=c");
        for (String text : new String[] {"c", "b", "a31", "a13", "b", "c", "a31"}) {
            x.file(text);
        }
        DUE.is("the order", x.order(), "2 3 6 0 1 4 5");
        x.form(1, false, false);
        DUE.is("the order by strength 1", x.order(), "2 3 6 0 1 4 5");
    }

    private static void tenEvenTexts() {
        Driven x = new Driven();
        for (int number = 0; number < 10; number++) {
            x.file(number % 2);
        }
        DUE.is("the order of ten empty texts", x.order(), "0 1 2 3 4 5 6 7 8 9");
        Driven y = withTen();
        y.form(1, true, false);
        y.with("&a=b");
        DUE.is("the order with b as a", y.order(), "8 0 2 3 4 6 7 9 5 1");
    }

    private static void evenTextsBehindTakingOut() {
        Driven x = new Driven();
        for (String text : new String[] {"b", "a", "b", "b"}) {
            x.file(text);
        }
        x.unfile(0);
        DUE.is("the order without 0", x.order(), "1 2 3");
        x.file("b");
        DUE.is("the order with b again", x.order(), "1 2 3 4");
        x.unfile(2);
        x.file("a");
        x.file("b");
        DUE.is("the order with a and b again", x.order(), "1 5 3 4 6");
    }

    private static void byForms() {
        Driven x = withTen();
        x.form(1, false, false);
        DUE.is("the order by strength 1", x.order(), "8 6 2 3 7 9 5 0 1 4");
        x.form(3, true, false);
        DUE.is("the order, shifted", x.order(), "8 3 6 7 2 9 5 0 4 1");
        x.form(4, true, false);
        DUE.is("the order, shifted, by strength 4", x.order(), "8 6 3 7 2 9 5 0 4 1");
        Driven y = new Driven();
        y.file("a1b");
        y.file("ab1");
        DUE.is("the order, not backward", y.order(), "1 0");
        y.form(3, false, true);
        DUE.is("the order, backward", y.order(), "0 1");
        y.form(5, false, false);
        DUE.is("the order behind a refused form", y.order(), "0 1");
    }

    private static void byTable() {
        Driven x = withTen();
        x.rule("&-<b");
        DUE.is("the order behind no rule", x.order(), "8 6 3 7 2 9 5 0 4 1");
        x.rule("&c<a<b<b");
        DUE.is("the order behind a refused rule", x.order(), "8 6 3 7 2 9 5 0 4 1");
        x.with("&c<a");
        DUE.is("the order behind &c<a", x.order(), "8 6 7 0 4 1 3 2 9 5");
        x.with("&b<ab<<<a1");
        // - A:1 b:1 B:3 ab:1 a1:3 c:1 C:3 a:1
        DUE.is("the order behind &b<ab<<<a1", x.order(), "8 6 7 0 4 1 5 2 9 3");
    }

    private static void emptyFile() {
        Driven x = new Driven();
        for (int i : new int[] {-1, 0, 1, 9, 10, Integer.MIN_VALUE, Integer.MAX_VALUE}) {
            DUE.is("inOrder(" + i + ")", x.inOrder(i), -1);
        }
    }

    private static void noSuchPlace() {
        Driven x = withTen();
        for (int i : new int[] {-1, 10, 11, -2, Integer.MIN_VALUE, Integer.MAX_VALUE}) {
            DUE.is("inOrder(" + i + ") of ten", x.inOrder(i), -1);
        }
        Driven y = new Driven();
        y.file("a");
        DUE.is("inOrder(-1) of one", y.inOrder(-1), -1);
        DUE.is("inOrder(0) of one", y.inOrder(0), 0);
        DUE.is("inOrder(1) of one", y.inOrder(1), -1);
    }

    private static void placeBefore() {
        Driven x = withTen();
        DUE.is("inOrder(9)", x.inOrder(9), 1);
        x.unfile(1);
        DUE.is("inOrder(9) of nine", x.inOrder(9), -1);
        DUE.is("inOrder(8) of nine", x.inOrder(8), 4);
        for (int number = 0; number < 10; number++) {
            x.unfile(number);
        }
        DUE.is("inOrder(0) of none again", x.inOrder(0), -1);
    }
}
