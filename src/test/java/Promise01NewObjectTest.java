public final class Promise01NewObjectTest {
    public static void main(String[] args) {
        Due due = new Due("promise 1, a new object");
        TailoredOrder x = new TailoredOrder();
        due.is("filed()", x.filed(), 0);
        due.is("inOrder(0)", x.inOrder(0), -1);
        due.is("the table", Due.table(x), Due.FIRST_TABLE);
        due.is("the key of an empty line 0: strength 3", Due.key(x, 0), "0 0 0");
        due.is("the key of an empty line 1", Due.key(x, 1), "0 0 0");
        due.is("compare() of empty lines", x.compare(), 0);
        for (int line = 0; line < 3; line++) {
            due.is("wipe(" + line + ")", x.wipe(line), 0);
        }
        due.is("not shifted", Due.keyOf(x, "a-1"), "3 2 0 1 1 101 0 1 1 1 0");
        due.is("not backward", Due.keyOf(x, "a1b"), "3 4 0 1 101 1 0 1 1 1 0");
        due.is("the first number", x.file(0), 0);

        Due.rule(x, "&a<<b1");
        x.form(4, true, true);
        TailoredOrder other = new TailoredOrder();
        due.is("the table of another object", Due.table(other), Due.FIRST_TABLE);
        due.is("filed() of another object", other.filed(), 0);
        due.is("the key of another object", Due.keyOf(other, "b1"), "4 0 1 101 0 1 1 0");
        due.end();
    }
}
