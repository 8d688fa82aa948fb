public final class Promise12UnfileTest {
    public static void main(String[] args) {
        Due due = new Due("promise 12, unfile");
        TailoredOrder x = new TailoredOrder();
        due.is("unfile(0) of nothing", x.unfile(0), false);
        String[] texts = {"d", "b", "c", "a"};
        for (String text : texts) {
            Due.file(x, text);
        }
        for (int number : new int[] {-1, 4, Integer.MIN_VALUE, Integer.MAX_VALUE}) {
            due.is("unfile(" + number + ")", x.unfile(number), false);
        }
        due.is("order", Due.order(x), "3 1 2 0");
        due.is("unfile(1)", x.unfile(1), true);
        due.is("filed()", x.filed(), 3);
        due.is("order", Due.order(x), "3 2 0");
        due.is("unfile(1) again", x.unfile(1), false);
        due.is("filed()", x.filed(), 3);
        due.is("unfile(0)", x.unfile(0), true);
        due.is("order", Due.order(x), "3 2");
        due.is("file b", Due.file(x, "b"), 4);
        due.is("order", Due.order(x), "3 4 2");
        due.is("unfile(4), the last one", x.unfile(4), true);
        due.is("unfile(2)", x.unfile(2), true);
        due.is("unfile(3)", x.unfile(3), true);
        due.is("filed()", x.filed(), 0);
        due.is("inOrder(0)", x.inOrder(0), -1);
        due.is("unfile(3) again", x.unfile(3), false);
        due.end();
    }
}
