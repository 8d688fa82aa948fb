public final class Promise14InOrderTest {
    public static void main(String[] args) {
        Due due = new Due("promise 14, inOrder");
        TailoredOrder x = new TailoredOrder();
        for (int i = -1; i < 2; i++) {
            due.is("inOrder(" + i + ") of nothing", x.inOrder(i), -1);
        }
        String[] texts = {"b", "B", "a1", "a", "b", "ab", "-a", "A", "", "a31"};
        for (String text : texts) {
            Due.file(x, text);
        }
        due.is("order", Due.order(x), "8 6 3 7 2 9 5 0 4 1");
        for (int i : new int[] {-1, 10, 11, Integer.MIN_VALUE, Integer.MAX_VALUE}) {
            due.is("inOrder(" + i + ")", x.inOrder(i), -1);
        }
        x.form(1, false, false);
        due.is("order by strength 1", Due.order(x), "8 6 2 3 7 9 5 0 1 4");
        x.form(3, true, false);
        due.is("order shifted", Due.order(x), "8 3 6 7 2 9 5 0 4 1");
        x.form(4, true, false);
        due.is("order shifted by strength 4", Due.order(x), "8 6 3 7 2 9 5 0 4 1");
        x.form(3, false, false);
        Due.rule(x, "&-<b");
        due.is("no rule changes nothing", Due.order(x), "8 6 3 7 2 9 5 0 4 1");
        Due.rule(x, "&c<a");
        due.is("order behind &c<a", Due.order(x), "8 6 7 0 4 1 3 2 9 5");
        Due.rule(x, "&b<ab<<<a1");
        // - A:1 b:1 B:3 ab:1 a1:3 c:1 C:3 a:1
        due.is("order behind &b<ab<<<a1", Due.order(x), "8 6 7 0 4 1 5 2 9 3");
        x.unfile(0);
        due.is("order without 0", Due.order(x), "8 6 7 4 1 5 2 9 3");
        due.is("inOrder(9)", x.inOrder(9), -1);
        due.is("file b again", Due.file(x, "b"), 10);
        due.is("of even ones the less number", Due.order(x), "8 6 7 4 10 1 5 2 9 3");
        due.end();
    }
}
