public final class Promise11FileTest {
    public static void main(String[] args) {
        Due due = new Due("promise 11, file");
        TailoredOrder x = new TailoredOrder();
        Due.write(x, 0, "b");
        Due.write(x, 1, "a");
        due.is("file(0)", x.file(0), 0);
        due.is("file(1)", x.file(1), 1);
        due.is("the line stays", Due.key(x, 0), "4 0 1 0 1 0");
        for (int line : new int[] {-1, 2, 3, Integer.MIN_VALUE, Integer.MAX_VALUE}) {
            due.is("file(" + line + ")", x.file(line), -1);
        }
        due.is("filed() behind refusals", x.filed(), 2);
        x.wipe(0);
        x.wipe(1);
        x.type(1, 'H');
        due.is("copies are filed", Due.order(x), "1 0");
        due.is("below(1)", x.below(1), 2);
        for (int number = 2; number < 10; number++) {
            due.is("file(0)", x.file(0), number);
        }
        due.is("file(0) of the eleventh", x.file(0), -1);
        due.is("file(1) of the eleventh", x.file(1), -1);
        due.is("filed()", x.filed(), 10);
        due.is("order", Due.order(x), "2 3 4 5 6 7 8 9 1 0");
        due.is("unfile(9)", x.unfile(9), true);
        due.is("no number comes again", x.file(1), 10);
        due.is("file(1), full again", x.file(1), -1);
        for (int number = 0; number <= 10; number++) {
            x.unfile(number);
        }
        due.is("file(1) into the emptied file", x.file(1), 11);
        due.is("filed()", x.filed(), 1);
        Due.write(x, 0, "abcdefghABC1");
        due.is("file(0) of a full line", x.file(0), 12);
        Due.write(x, 1, "abcdefghABC2");
        due.is("all of it is filed", x.below(1), 1);
        due.end();
    }
}
