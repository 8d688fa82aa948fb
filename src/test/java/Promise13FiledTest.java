public final class Promise13FiledTest {
    public static void main(String[] args) {
        Due due = new Due("promise 13, filed");
        TailoredOrder x = new TailoredOrder();
        due.is("filed()", x.filed(), 0);
        for (int n = 1; n <= 12; n++) {
            x.file(n % 2);
            due.is("filed()", x.filed(), Math.min(n, 10));
        }
        x.file(2);
        due.is("filed() behind a refusal", x.filed(), 10);
        for (int number = 0; number < 10; number++) {
            x.unfile(number);
            x.unfile(number);
            due.is("filed() behind unfile(" + number + ")", x.filed(), 9 - number);
        }
        due.end();
    }
}
