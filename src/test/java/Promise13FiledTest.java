public final class Promise13FiledTest {
    private static final Due DUE = new Due("promise 13, filed");

    public static void main(String[] args) {
        DUE.sentence("How many texts the file has: none", () -> DUE.is("filed()", new Driven().filed(), 0));
        DUE.sentence("How many texts the file has: up to ten, and no more", Promise13FiledTest::upToTen);
        DUE.sentence("How many texts the file has: down to none again", Promise13FiledTest::downToNone);
        DUE.sentence("How many texts the file has: behind what is refused", Promise13FiledTest::refused);
        DUE.sentence("How many texts the file has: behind other calls", Promise13FiledTest::otherCalls);
        DUE.end();
    }

    private static void upToTen() {
        Driven x = new Driven();
        for (int n = 1; n <= 12; n++) {
            x.file(n % 2);
            DUE.is("filed() behind file " + n, x.filed(), Math.min(n, 10));
        }
    }

    private static void downToNone() {
        Driven x = new Driven();
        for (int n = 0; n < 10; n++) {
            x.file(0);
        }
        for (int number = 0; number < 10; number++) {
            x.unfile(number);
            DUE.is("filed() behind unfile(" + number + ")", x.filed(), 9 - number);
        }
        x.file(0);
        DUE.is("filed() of one more", x.filed(), 1);
    }

    private static void refused() {
        Driven x = new Driven();
        x.file(2);
        x.unfile(0);
        DUE.is("filed()", x.filed(), 0);
        x.file(0);
        x.file(-1);
        x.file(3);
        x.unfile(1);
        x.unfile(-1);
        DUE.is("filed()", x.filed(), 1);
        x.unfile(0);
        x.unfile(0);
        DUE.is("filed()", x.filed(), 0);
    }

    private static void otherCalls() {
        Driven x = new Driven();
        x.file("ab");
        x.file("b");
        x.with("&b<a");
        x.form(1, true, true);
        x.wipe(0);
        x.inOrder(0);
        x.below(0);
        DUE.is("filed()", x.filed(), 2);
    }
}
