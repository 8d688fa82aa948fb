/** The sentences of promise 9, and of the terms on keys and weights. */
public final class Promise09KeyAtTest {
    private static final Due DUE = new Due("promise 9, keyAt");

    public static void main(String[] args) {
        DUE.sentence("Number i (from 0) of the key of line 0 or 1", Promise09KeyAtTest::numbers);
        DUE.sentence("-1 for another line", Promise09KeyAtTest::anotherLine);
        DUE.sentence("-1 when there is none", Promise09KeyAtTest::noNumber);
        DUE.sentence("-1 when there is none: an empty line", Promise09KeyAtTest::emptyLine);
        DUE.sentence("-1 when there is none: a longest key", Promise09KeyAtTest::longestKey);
        DUE.sentence("-1 when there is none: the key was longer before", Promise09KeyAtTest::longerBefore);
        DUE.sentence("the key by the table as it is", Promise09KeyAtTest::byTheTableAsItIs);
        DUE.sentence("An entry's element has the entry's weights and, as fourth weight, 1000",
            Promise09KeyAtTest::entryWeights);
        DUE.sentence("The element of the mark d has the weights 0, 100 + d, 1 and 0", Promise09KeyAtTest::markWeights);
        DUE.sentence("shifted: the element of a variable has 0, 0, 0 and its entry's primary",
            Promise09KeyAtTest::shiftedVariables);
        DUE.sentence("shifted: that of a mark has 0 four times behind that of a variable",
            Promise09KeyAtTest::shiftedMarks);
        DUE.sentence("shifted: that of a mark with no other element before it stays", Promise09KeyAtTest::marksAtStart);
        DUE.sentence("In the other form the fourth weights are all 0", Promise09KeyAtTest::notShifted);
        DUE.sentence("for each level from 1 up to the strength, and then a 0", Promise09KeyAtTest::levels);
        DUE.sentence("for the level 2 in the form backward the last one first", Promise09KeyAtTest::backward);
        DUE.end();
    }

    private static Driven shaped(int strength, boolean shifted, boolean backward, String... rules) {
        Driven x = new Driven().with(rules);
        x.form(strength, shifted, backward);
        return x;
    }

    private static void key(Driven x, String text, String want) {
        DUE.is("the key of '" + text + "'", x.keyOf(text), want);
    }

    private static void numbers() {
        Driven x = new Driven();
        x.write(0, "aB");
        x.write(1, "H1");
        int[] first = {3, 4, 0, 1, 1, 0, 1, 2, 0};
        int[] second = {10, 0, 1, 101, 0, 2, 1, 0};
        for (int i = 0; i < first.length; i++) {
            DUE.is("keyAt(0, " + i + ")", x.keyAt(0, i), first[i]);
        }
        for (int i = 0; i < second.length; i++) {
            DUE.is("keyAt(1, " + i + ")", x.keyAt(1, i), second[i]);
        }
    }

    private static void anotherLine() {
        Driven x = new Driven();
        x.write(0, "aB");
        x.write(1, "H1");
        x.write(2, "ab");
        for (int line : new int[] {-1, 2, 3, Integer.MIN_VALUE, Integer.MAX_VALUE}) {
            for (int i = -1; i < 3; i++) {
                DUE.is("keyAt(" + line + ", " + i + ")", x.keyAt(line, i), -1);
            }
        }
    }

    private static void noNumber() {
        Driven x = new Driven();
        x.write(0, "aB");
        x.write(1, "H1");
        for (int i : new int[] {-1, -2, 9, 10, 11, 51, 52, 53, Integer.MIN_VALUE, Integer.MAX_VALUE}) {
            DUE.is("keyAt(0, " + i + ")", x.keyAt(0, i), -1);
        }
        DUE.is("keyAt(1, 8)", x.keyAt(1, 8), -1);
        DUE.is("keyAt(1, -1)", x.keyAt(1, -1), -1);
    }

    private static void emptyLine() {
        Driven x = new Driven();
        for (int strength = 1; strength <= 4; strength++) {
            x.form(strength, false, false);
            DUE.is("keyAt(0, " + (strength - 1) + ")", x.keyAt(0, strength - 1), 0);
            DUE.is("keyAt(0, " + strength + ")", x.keyAt(0, strength), -1);
            DUE.is("keyAt(1, 0)", x.keyAt(1, 0), 0);
            DUE.is("keyAt(1, -1)", x.keyAt(1, -1), -1);
        }
    }

    private static void longestKey() {
        Driven x = shaped(4, true, false);
        x.write(1, "abcdefghABCH");
        DUE.is("keyAt(1, 11)", x.keyAt(1, 11), 10);
        DUE.is("keyAt(1, 12)", x.keyAt(1, 12), 0);
        DUE.is("keyAt(1, 38)", x.keyAt(1, 38), 0);
        DUE.is("keyAt(1, 39)", x.keyAt(1, 39), 1000);
        DUE.is("keyAt(1, 50)", x.keyAt(1, 50), 1000);
        DUE.is("keyAt(1, 51)", x.keyAt(1, 51), 0);
        DUE.is("keyAt(1, 52)", x.keyAt(1, 52), -1);
        DUE.is("keyAt(1, -1)", x.keyAt(1, -1), -1);
    }

    private static void longerBefore() {
        Driven x = new Driven();
        x.write(0, "abcd");
        DUE.is("keyAt(0, 13)", x.keyAt(0, 13), 1);
        x.write(0, "a");
        DUE.is("keyAt(0, 6)", x.keyAt(0, 6), -1);
        DUE.is("keyAt(0, 13)", x.keyAt(0, 13), -1);
        x.form(1, false, false);
        DUE.is("keyAt(0, 2) at strength 1", x.keyAt(0, 2), -1);
    }

    private static void byTheTableAsItIs() {
        Driven x = shaped(2, false, false);
        key(x, "bab", "4 3 4 0 1 1 1 0");
        x.with("&a<ba");
        DUE.is("the key of bab behind &a<ba", x.key(0), "4 5 0 1 1 0");
        x.with("&b<<ba");
        DUE.is("the key of bab behind &b<<ba", x.key(0), "4 4 0 2 1 0");
        x.rule("&b<<a<ba<ba");
        DUE.is("the key of bab behind a refusal", x.key(0), "4 4 0 2 1 0");
    }

    private static void entryWeights() {
        Driven x = shaped(4, true, false, "&A<<a1<<<a2=a3");
        key(x, "a", "3 0 1 0 1 0 1000 0");
        key(x, "A", "3 0 1 0 2 0 1000 0");
        key(x, "a1", "3 0 2 0 1 0 1000 0");
        key(x, "a2", "3 0 2 0 2 0 1000 0");
        key(x, "a3", "3 0 2 0 2 0 1000 0");
        key(x, "a2Ha1", "3 10 3 0 2 1 2 0 2 2 1 0 1000 1000 1000 0");
        Driven y = shaped(3, false, false);
        key(y, " -aAhH", "1 2 3 3 10 10 0 1 1 1 1 1 1 0 1 1 1 2 1 2 0");
    }

    private static void markWeights() {
        for (int d = 1; d <= 4; d++) {
            key(shaped(4, false, false), "" + d, "0 " + (100 + d) + " 0 1 0 0");
            key(shaped(4, true, false), "" + d, "0 " + (100 + d) + " 0 1 0 0");
            key(shaped(4, true, false), "b" + d, "4 0 1 " + (100 + d) + " 0 1 1 0 1000 0");
        }
    }

    private static void shiftedVariables() {
        Driven x = shaped(4, true, false);
        key(x, " ", "0 0 0 1 0");
        key(x, "-", "0 0 0 2 0");
        key(x, " -a- ", "3 0 1 0 1 0 1 2 1000 2 1 0");
        x.form(3, true, false);
        key(x, " -1a", "3 0 1 0 1 0");
    }

    private static void shiftedMarks() {
        Driven x = shaped(4, true, false, "&b<b1");
        key(x, "-1", "0 0 0 2 0");
        key(x, " 4", "0 0 0 1 0");
        key(x, "-31a2", "3 0 1 102 0 1 1 0 2 1000 0");
        key(x, "a1-2b3", "3 4 0 1 101 1 103 0 1 1 1 1 0 1000 2 1000 0");
        key(x, "-12 34", "0 0 0 2 1 0");
        key(x, "-a1", "3 0 1 101 0 1 1 0 2 1000 0");
        key(x, "-b12", "5 0 1 102 0 1 1 0 2 1000 0");
        key(x, "b1-1", "5 0 1 0 1 0 1000 2 0");
        key(x, "a1234-1234", "3 0 1 101 102 103 104 0 1 1 1 1 1 0 1000 2 0");
    }

    private static void marksAtStart() {
        Driven x = shaped(4, true, false);
        key(x, "1", "0 101 0 1 0 0");
        key(x, "1-", "0 101 0 1 0 2 0");
        key(x, "31-2", "0 101 103 0 1 1 0 2 0");
        // What another text ended with does not count.
        x.write(1, "a-");
        x.keyLength(1);
        key(x, "4", "0 104 0 1 0 0");
    }

    private static void notShifted() {
        Driven x = shaped(4, false, false, "&b<b1");
        key(x, " -1a", "1 2 3 0 1 1 101 1 0 1 1 1 1 0 0");
        key(x, "b1", "5 0 1 0 1 0 0");
        key(x, "", "0 0 0 0");
        x.form(4, true, false);
        x.form(4, false, false);
        key(x, "-b2", "2 4 0 1 1 102 0 1 1 1 0 0");
    }

    private static void levels() {
        String[] keys = {"3 4 0", "3 4 0 1 1 103 0", "3 4 0 1 1 103 0 2 1 1 0", "3 4 0 1 1 103 0 2 1 1 0 1000 1000 2 0"};
        for (int strength = 1; strength <= 4; strength++) {
            key(shaped(strength, true, false), "Ab3-", keys[strength - 1]);
        }
        String[] marks = {"0", "0 104 0", "0 104 0 1 0", "0 104 0 1 0 0"};
        for (int strength = 1; strength <= 4; strength++) {
            key(shaped(strength, true, false), "4", marks[strength - 1]);
        }
    }

    private static void backward() {
        Driven x = shaped(4, true, true, "&a<<a1", "&B<<<bc");
        key(x, "A1b2-3bc4", "3 4 4 0 104 1 102 1 101 1 0 2 1 1 1 3 1 0 1000 1000 2 1000 0");
        key(x, "a1bc", "3 4 0 1 2 0 1 3 0 1000 1000 0");
        x.form(4, true, false);
        key(x, "a1bc", "3 4 0 2 1 0 1 3 0 1000 1000 0");
        x.form(1, false, true);
        key(x, "a1bc", "3 4 0");
        x.form(2, false, true);
        key(x, "12", "0 102 101 0");
        key(x, "", "0 0");
    }
}
