public final class Promise03WipeTest {
    public static void main(String[] args) {
        Due due = new Due("promise 3, wipe");
        TailoredOrder x = new TailoredOrder();
        Due.write(x, 0, "abc");
        Due.write(x, 1, "ab");
        Due.write(x, 2, "&a<b");
        for (int line : new int[] {-1, 3, Integer.MIN_VALUE, Integer.MAX_VALUE}) {
            due.is("wipe(" + line + ")", x.wipe(line), -1);
        }
        due.is("wipe(0)", x.wipe(0), 3);
        due.is("the key of line 0", Due.key(x, 0), "0 0 0");
        due.is("the key of line 1", Due.key(x, 1), "3 4 0 1 1 0 1 1 0");
        due.is("wipe(0) again", x.wipe(0), 0);
        due.is("wipe(1)", x.wipe(1), 2);
        due.is("wipe(2)", x.wipe(2), 4);
        due.is("tailor() of a wiped line", x.tailor(), -1);
        due.is("the table", Due.table(x), Due.FIRST_TABLE);
        Due.write(x, 0, "abcdefghabcd");
        due.is("wipe(0) of a full line", x.wipe(0), 12);
        due.end();
    }
}
