public final class Promise01NewObjectTest {
    private static final Due DUE = new Due("promise 1, a new object");

    public static void main(String[] args) {
        DUE.sentence("The table as said", Promise01NewObjectTest::table);
        DUE.sentence("the strength is 3", Promise01NewObjectTest::strength);
        DUE.sentence("not shifted", Promise01NewObjectTest::notShifted);
        DUE.sentence("not backward", Promise01NewObjectTest::notBackward);
        DUE.sentence("the lines are empty", Promise01NewObjectTest::emptyLines);
        DUE.sentence("the file is empty", Promise01NewObjectTest::emptyFile);
        DUE.sentence("a new object has nothing of another one", Promise01NewObjectTest::anotherObject);
        DUE.end();
    }

    private static void table() {
        Driven x = new Driven();
        DUE.is("the table", x.table(), Driven.FIRST_TABLE);
        DUE.is("the weights of the first entry", x.weights(0), "1 1 1");
        DUE.is("the weights of the last entry", x.weights(17), "10 1 2");
        DUE.is("entry(18, 0)", x.entry(18, 0), -2);
    }

    private static void strength() {
        Driven x = new Driven();
        DUE.is("the key of an empty line 0", x.key(0), "0 0 0");
        DUE.is("the key of an empty line 1", x.key(1), "0 0 0");
        DUE.is("the key of A1", x.keyOf("A1"), "3 0 1 101 0 2 1 0");
    }

    private static void notShifted() {
        DUE.is("the key of a-1", new Driven().keyOf("a-1"), "3 2 0 1 1 101 0 1 1 1 0");
    }

    private static void notBackward() {
        DUE.is("the key of ab1", new Driven().keyOf("ab1"), "3 4 0 1 1 101 0 1 1 1 0");
    }

    private static void emptyLines() {
        Driven x = new Driven();
        DUE.is("compare()", x.compare(), 0);
        for (int line = 0; line < 3; line++) {
            DUE.is("wipe(" + line + ")", x.wipe(line), 0);
        }
        DUE.is("tailor() of a new object", new Driven().tailor(), -1);
    }

    private static void emptyFile() {
        Driven x = new Driven();
        DUE.is("filed()", x.filed(), 0);
        DUE.is("inOrder(0)", x.inOrder(0), -1);
        DUE.is("below(0)", x.below(0), 0);
        DUE.is("unfile(0)", x.unfile(0), false);
        DUE.is("the first number", x.file(0), 0);
    }

    private static void anotherObject() {
        Driven used = new Driven().with("&a<<b1");
        used.form(4, true, true);
        used.write(1, "ab");
        used.file("b1");
        used.add(2, "&a<b");
        DUE.is("all of an object made next", new Driven().all(), NOTHING);
        Driven x = new Driven();
        used.with("<c");
        used.file("c");
        DUE.is("all of an object beside one that goes on", x.all(), NOTHING);
    }

    private static final String NOTHING = Driven.FIRST_TABLE
        + " | 1 1 1 | 2 1 1 | 3 1 1 | 3 1 2 | 4 1 1 | 4 1 2 | 5 1 1 | 5 1 2 | 6 1 1 | 6 1 2"
        + " | 7 1 1 | 7 1 2 | 8 1 1 | 8 1 2 | 9 1 1 | 9 1 2 | 10 1 1 | 10 1 2"
        + " | keys 0 0 0 | 0 0 0 | 0 | order  | 0 0 | numbers 0 1 | rule -1 18 | line 0 0 | line 1 0 | line 2 0";
}
