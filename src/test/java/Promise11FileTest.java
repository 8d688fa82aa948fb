public final class Promise11FileTest {
    private static final Due DUE = new Due("promise 11, file");

    public static void main(String[] args) {
        DUE.sentence("A copy of line 0 or 1 is put into the file", Promise11FileTest::copies);
        DUE.sentence("the line stays", Promise11FileTest::lineStays);
        DUE.sentence("a copy of an empty line, of a full line, of the same line twice", Promise11FileTest::anyLine);
        DUE.sentence("its number, 0 for the first one ever put in and 1 more for each next one",
            Promise11FileTest::numbers);
        DUE.sentence("1 more for each next one: when texts were taken out", Promise11FileTest::numbersBehindTakingOut);
        DUE.sentence("1 more for each next one: when all were taken out", Promise11FileTest::emptiedFile);
        DUE.sentence("-1, refused, for another line", Promise11FileTest::anotherLine);
        DUE.sentence("-1, refused, when the file has ten texts", Promise11FileTest::eleventhText);
        DUE.sentence("refused: no number is used up", Promise11FileTest::noNumberUsedUp);
        DUE.sentence("when one of ten was taken out, there is room for one", Promise11FileTest::roomForOne);
        DUE.end();
    }

    private static Driven withTen() {
        Driven x = new Driven();
        x.write(0, "b");
        for (int number = 0; number < 10; number++) {
            DUE.is("file(0)", x.file(0), number);
        }
        return x;
    }

    private static void copies() {
        Driven x = new Driven();
        x.write(0, "b");
        x.write(1, "a");
        DUE.is("file(0)", x.file(0), 0);
        DUE.is("file(1)", x.file(1), 1);
        x.write(0, "h");
        x.wipe(1);
        x.add(1, "aa");
        DUE.is("the order, the lines being others now", x.order(), "1 0");
        DUE.is("below(1) of aa", x.below(1), 1);
        DUE.is("below(0) of h", x.below(0), 2);
    }

    private static void lineStays() {
        Driven x = new Driven();
        x.write(0, "Ab");
        x.write(1, "c");
        x.file(0);
        x.file(1);
        DUE.is("the key of line 0", x.key(0), "3 4 0 1 1 0 2 1 0");
        DUE.is("the key of line 1", x.key(1), "5 0 1 0 1 0");
        x.unfile(0);
        DUE.is("wipe(0)", x.wipe(0), 2);
        DUE.is("wipe(1)", x.wipe(1), 1);
    }

    private static void anyLine() {
        Driven x = new Driven();
        DUE.is("an empty line 0", x.file(0), 0);
        DUE.is("an empty line 1", x.file(1), 1);
        x.write(0, "abcdefghABC2");
        DUE.is("a full line", x.file(0), 2);
        DUE.is("the same line", x.file(0), 3);
        DUE.is("filed()", x.filed(), 4);
        DUE.is("the order", x.order(), "0 1 2 3");
        x.write(1, "abcdefghABC1");
        DUE.is("below(1) of a less full line", x.below(1), 2);
        x.write(1, "abcdefghABC3");
        DUE.is("below(1) of a greater full line", x.below(1), 4);
    }

    private static void numbers() {
        Driven x = new Driven();
        for (int number = 0; number < 10; number++) {
            DUE.is("file(" + number % 2 + ")", x.file(number % 2), number);
        }
        DUE.is("filed()", x.filed(), 10);
    }

    private static void numbersBehindTakingOut() {
        Driven x = new Driven();
        for (int number = 0; number < 4; number++) {
            x.file(0);
        }
        x.unfile(3);
        DUE.is("behind the last one taken out", x.file(0), 4);
        x.unfile(0);
        DUE.is("behind the first one taken out", x.file(1), 5);
        x.unfile(2);
        DUE.is("behind one between taken out", x.file(0), 6);
        x.unfile(2);
        x.unfile(9);
        DUE.is("behind none taken out", x.file(0), 7);
        DUE.is("the order", x.order(), "1 4 5 6 7");
    }

    private static void emptiedFile() {
        Driven x = new Driven();
        for (int number = 0; number < 30; number++) {
            DUE.is("file(0) into an empty file", x.file(0), number);
            DUE.is("unfile(" + number + ")", x.unfile(number), true);
        }
        DUE.is("filed()", x.filed(), 0);
    }

    private static void anotherLine() {
        Driven x = new Driven();
        x.write(2, "ab");
        for (int line : new int[] {-1, 2, 3, Integer.MIN_VALUE, Integer.MAX_VALUE}) {
            DUE.is("file(" + line + ")", x.file(line), -1);
        }
        DUE.is("filed()", x.filed(), 0);
        DUE.is("inOrder(0)", x.inOrder(0), -1);
        DUE.is("line 2 stays", x.wipe(2), 2);
    }

    private static void eleventhText() {
        Driven x = withTen();
        x.write(1, "a");
        DUE.is("file(0) of the eleventh", x.file(0), -1);
        DUE.is("file(1) of the eleventh", x.file(1), -1);
        DUE.is("file(2), the file being full", x.file(2), -1);
        DUE.is("filed()", x.filed(), 10);
        DUE.is("the order", x.order(), "0 1 2 3 4 5 6 7 8 9");
        DUE.is("inOrder(10)", x.inOrder(10), -1);
        DUE.is("below(0)", x.below(0), 0);
        DUE.is("the line stays", x.wipe(1), 1);
    }

    private static void noNumberUsedUp() {
        Driven x = new Driven();
        x.file(2);
        x.file(-1);
        DUE.is("the first number behind refusals", x.file(0), 0);
        x.file(3);
        DUE.is("the second number behind a refusal", x.file(0), 1);
        Driven y = withTen();
        y.file(0);
        y.file(1);
        y.unfile(4);
        DUE.is("the number behind two refused by a full file", y.file(0), 10);
    }

    private static void roomForOne() {
        Driven x = withTen();
        for (int number : new int[] {9, 0, 5}) {
            DUE.is("unfile(" + number + ")", x.unfile(number), true);
            int next = number == 9 ? 10 : number == 0 ? 11 : 12;
            DUE.is("file(0)", x.file(0), next);
            DUE.is("file(0) of one more", x.file(0), -1);
            DUE.is("filed()", x.filed(), 10);
        }
        DUE.is("the order", x.order(), "1 2 3 4 6 7 8 10 11 12");
    }
}
