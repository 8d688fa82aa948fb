public final class Promise12UnfileTest {
    private static final Due DUE = new Due("promise 12, unfile");

    public static void main(String[] args) {
        DUE.sentence("The text with that number is taken out of the file: true", Promise12UnfileTest::takenOut);
        DUE.sentence("False when it is not there: an empty file", Promise12UnfileTest::emptyFile);
        DUE.sentence("False when it is not there: a number that none has had", Promise12UnfileTest::noSuchNumber);
        DUE.sentence("False when it is not there: it was taken out before", Promise12UnfileTest::takenOutBefore);
        DUE.sentence("the number counts, not the place", Promise12UnfileTest::numberNotPlace);
        DUE.sentence("taken out: the first, the last, one between, the only one", Promise12UnfileTest::anyPlace);
        DUE.sentence("of even texts, that one", Promise12UnfileTest::evenTexts);
        DUE.end();
    }

    private static Driven withFour() {
        Driven x = new Driven();
        for (String text : new String[] {"d", "b", "c", "a"}) {
            x.file(text);
        }
        return x;
    }

    private static void takenOut() {
        Driven x = withFour();
        DUE.is("unfile(1)", x.unfile(1), true);
        DUE.is("filed()", x.filed(), 3);
        DUE.is("order", x.order(), "3 2 0");
        x.write(0, "c");
        DUE.is("below(0) of c", x.below(0), 1);
        DUE.is("file b", x.file("b"), 4);
        DUE.is("order", x.order(), "3 4 2 0");
    }

    private static void emptyFile() {
        Driven x = new Driven();
        for (int number : new int[] {0, -1, 1, 9, 10, Integer.MIN_VALUE, Integer.MAX_VALUE}) {
            DUE.is("unfile(" + number + ")", x.unfile(number), false);
        }
        DUE.is("filed()", x.filed(), 0);
        DUE.is("the first number", x.file(0), 0);
    }

    private static void noSuchNumber() {
        Driven x = withFour();
        for (int number : new int[] {-1, 4, 5, 9, 10, Integer.MIN_VALUE, Integer.MAX_VALUE}) {
            DUE.is("unfile(" + number + ")", x.unfile(number), false);
        }
        DUE.is("filed()", x.filed(), 4);
        DUE.is("order", x.order(), "3 1 2 0");
        DUE.is("the next number", x.file(0), 4);
    }

    private static void takenOutBefore() {
        Driven x = withFour();
        for (int number : new int[] {1, 3, 0, 2}) {
            DUE.is("unfile(" + number + ")", x.unfile(number), true);
            DUE.is("unfile(" + number + ") again", x.unfile(number), false);
        }
        DUE.is("filed()", x.filed(), 0);
        x.file(0);
        for (int number = 0; number < 4; number++) {
            DUE.is("unfile(" + number + ") of an old number", x.unfile(number), false);
        }
        DUE.is("unfile(4)", x.unfile(4), true);
    }

    private static void numberNotPlace() {
        Driven x = withFour();
        x.unfile(0);
        x.unfile(1);
        DUE.is("unfile(0)", x.unfile(0), false);
        DUE.is("unfile(1)", x.unfile(1), false);
        DUE.is("order", x.order(), "3 2");
        DUE.is("unfile(2)", x.unfile(2), true);
        DUE.is("order", x.order(), "3");
    }

    private static void anyPlace() {
        String[] left = {"3 1 2", "3 2 0", "3 1 0", "1 2 0"};
        for (int number = 0; number < 4; number++) {
            Driven x = withFour();
            DUE.is("unfile(" + number + ")", x.unfile(number), true);
            DUE.is("order behind unfile(" + number + ")", x.order(), left[number]);
        }
        Driven y = new Driven();
        y.file("a");
        DUE.is("unfile(0) of the only one", y.unfile(0), true);
        DUE.is("filed()", y.filed(), 0);
        DUE.is("inOrder(0)", y.inOrder(0), -1);
        Driven z = new Driven();
        for (int number = 0; number < 10; number++) {
            z.file(0);
        }
        DUE.is("unfile(9) of ten", z.unfile(9), true);
        DUE.is("unfile(0) of nine", z.unfile(0), true);
        DUE.is("order", z.order(), "1 2 3 4 5 6 7 8");
    }

    private static void evenTexts() {
        Driven x = new Driven();
        for (int number = 0; number < 3; number++) {
            x.file("ab");
        }
        DUE.is("unfile(1)", x.unfile(1), true);
        DUE.is("order", x.order(), "0 2");
    }
}
