/** The sentences of the terms on the elements of a text, as promise 9 shows them. */
public final class Promise09ElementsTest {
    private static final Due DUE = new Due("promise 9, elements");

    public static void main(String[] args) {
        DUE.sentence("in every run of marks, those with class 1 come before those with class 2",
            Promise09ElementsTest::classes);
        DUE.sentence("otherwise in the order that they had", Promise09ElementsTest::orderOfMarks);
        DUE.sentence("in every run of marks beside one another", Promise09ElementsTest::runsOfMarks);
        DUE.sentence("when a mark comes next, it is taken away and is an element", Promise09ElementsTest::marksNext);
        DUE.sentence("the longest string of an entry with which the rest begins is taken away",
            Promise09ElementsTest::longestStrings);
        DUE.sentence("there is always one", Promise09ElementsTest::alwaysOne);
        DUE.sentence("a longest string may have marks", Promise09ElementsTest::stringsWithMarks);
        DUE.sentence("the marks right behind are gone through, as far as only marks come",
            Promise09ElementsTest::marksBehind);
        DUE.sentence("one is blocked when one of the same class was passed over before", Promise09ElementsTest::blocked);
        DUE.sentence("not blocked by one that was taken, or by one of the other class",
            Promise09ElementsTest::notBlocked);
        DUE.sentence("what was taken with it behind is the string of an entry", Promise09ElementsTest::oneLeadsOn);
        DUE.sentence("it goes on with the rest, the marks passed over first", Promise09ElementsTest::passedOver);
        DUE.sentence("a string of three characters takes no mark more", Promise09ElementsTest::noFourth);
        DUE.sentence("a full line", Promise09ElementsTest::fullLine);
        DUE.end();
    }

    private static Driven second(String... rules) {
        Driven x = new Driven().with(rules);
        x.form(2, false, false);
        return x;
    }

    private static void key(Driven x, String text, String want) {
        DUE.is("the key of '" + text + "'", x.keyOf(text), want);
    }

    private static void classes() {
        Driven x = second();
        for (String first : new String[] {"1", "2"}) {
            for (String last : new String[] {"3", "4"}) {
                String due = "0 10" + first + " 10" + last + " 0";
                key(x, last + first, due);
                key(x, first + last, due);
            }
        }
        key(x, "3142", "0 101 102 103 104 0");
    }

    private static void orderOfMarks() {
        Driven x = second();
        key(x, "21", "0 102 101 0");
        key(x, "12", "0 101 102 0");
        key(x, "43", "0 104 103 0");
        key(x, "34", "0 103 104 0");
        key(x, "4321", "0 102 101 104 103 0");
        key(x, "342134214321", "0 102 101 102 101 102 101 103 104 103 104 104 103 0");
    }

    private static void runsOfMarks() {
        Driven x = second();
        key(x, "43a43", "3 0 104 103 1 104 103 0");
        key(x, "3a1", "3 0 103 1 101 0");
        key(x, "a3-1", "3 2 0 1 103 1 101 0");
        key(x, "31a31-31", "3 2 0 101 103 1 101 103 1 101 103 0");
        key(x, "41", "0 101 104 0");
        key(x, "a41", "3 0 1 101 104 0");
    }

    private static void marksNext() {
        Driven x = second("&a<a1");
        key(x, "1", "0 101 0");
        key(x, "1a", "3 0 101 1 0");
        key(x, "1a1", "4 0 101 1 0");
        key(x, "444444444444", "0 104 104 104 104 104 104 104 104 104 104 104 104 0");
    }

    private static void longestStrings() {
        // - a A ab abc bc b B c C cd d
        Driven x = second("&a<ab<abc<bc", "&C<cd");
        key(x, "ab", "4 0 1 0");
        key(x, "abc", "5 0 1 0");
        key(x, "abd", "4 10 0 1 1 0");
        key(x, "abcd", "5 10 0 1 1 0");
        key(x, "acd", "3 9 0 1 1 0");
        key(x, "bcd", "6 10 0 1 1 0");
        key(x, "aabbc", "3 4 6 0 1 1 1 0");
        key(x, "aB", "3 7 0 1 1 0");
        key(x, "a-b", "3 2 7 0 1 1 1 0");
        // Without the string of two, that of three is found all the same.
        Driven y = second("&a<abc");
        key(y, "ababc", "3 5 4 0 1 1 1 0");
        key(y, "ab", "3 5 0 1 1 0");
    }

    private static void alwaysOne() {
        Driven x = second("&h<a<b<c", "&H<d=e<f1<g", "&A<h<H");
        String characters = " -abcdefghABCDEFGH";
        for (char c : characters.toCharArray()) {
            x.write(0, "" + c);
            DUE.is("keyLength(0) of " + c, x.keyLength(0), 4);
        }
    }

    private static void stringsWithMarks() {
        Driven x = second("&a<a1b<a3");
        key(x, "a1b", "4 0 1 0");
        key(x, "a1c", "3 7 0 1 101 1 0");
        key(x, "a3b", "5 6 0 1 1 0");
        key(x, "a31b", "5 6 0 1 101 1 0");
        Driven y = second("&a<ab<ab4<a4");
        key(y, "ab4", "5 0 1 0");
        key(y, "a4b", "6 7 0 1 1 0");
        // Marks in an order that texts never have are never found.
        Driven z = second("&a<a31");
        key(z, "a31", "3 0 1 101 103 0");
    }

    private static void marksBehind() {
        // - a A a1 a3 a13 ab ab4
        Driven x = second("&a<a1<a3<a13<ab<ab4");
        key(x, "a1", "4 0 1 0");
        key(x, "a13", "6 0 1 0");
        key(x, "a31", "6 0 1 0");
        key(x, "a23", "5 0 1 102 0");
        key(x, "a-1", "3 2 0 1 1 101 0");
        key(x, "a2b3", "3 9 0 1 102 1 103 0");
        key(x, "ab14", "8 0 1 101 0");
        key(x, "ab41", "8 0 1 101 0");
        key(x, "a1b", "4 9 0 1 1 0");
        key(x, "a2", "3 0 1 102 0");
        key(x, "b1", "9 0 1 101 0");
    }

    private static void blocked() {
        // - a A a1 a3 a13
        Driven x = second("&a<a1<a3<a13");
        key(x, "a21", "3 0 1 102 101 0");
        key(x, "a43", "3 0 1 104 103 0");
        key(x, "a143", "4 0 1 104 103 0");
        key(x, "a2143", "3 0 1 102 101 104 103 0");
        key(x, "a221", "3 0 1 102 102 101 0");
        // A blocked one is passed over, and blocks as well.
        Driven y = second("&a<a4");
        key(y, "a334", "3 0 1 103 103 104 0");
    }

    private static void notBlocked() {
        Driven x = second("&a<a1<a3<a13");
        key(x, "a213", "5 0 1 102 101 0");
        key(x, "a223", "5 0 1 102 102 0");
        key(x, "a113", "6 0 1 101 0");
        key(x, "a123", "6 0 1 102 0");
        Driven y = second("&b<b1<b11<b3<b34");
        key(y, "b11", "6 0 1 0");
        key(y, "b34", "8 0 1 0");
        key(y, "b134", "5 0 1 103 104 0");
        key(y, "b234", "8 0 1 102 0");
    }

    private static void oneLeadsOn() {
        Driven x = second("&a<a3<a34");
        key(x, "a2341", "5 0 1 102 101 0");
        key(x, "a34", "5 0 1 0");
        key(x, "a43", "3 0 1 104 103 0");
        key(x, "a3434", "5 0 1 103 104 0");
        // Only what was taken counts, one mark at a time.
        Driven y = second("&a<a13<a24");
        key(y, "a13", "4 0 1 0");
        key(y, "a123", "3 0 1 101 102 103 0");
        key(y, "a214", "3 0 1 102 101 104 0");
        Driven z = second("&b<b11");
        key(z, "b131", "5 0 1 103 0");
        key(z, "b1", "4 0 1 101 0");
        key(z, "b2113", "4 0 1 102 101 101 103 0");
    }

    private static void passedOver() {
        Driven x = second("&a<a1<a3<a13");
        key(x, "a1133", "6 0 1 101 103 0");
        key(x, "a23b13", "5 7 0 1 102 1 101 103 0");
        key(x, "a124b", "4 7 0 1 102 104 1 0");
        key(x, "a2a2a1", "3 3 4 0 1 102 1 102 1 0");
        key(x, "a2 3", "3 1 0 1 102 1 103 0");
    }

    private static void noFourth() {
        Driven x = second("&a<abc<ab1");
        key(x, "abc1", "4 0 1 101 0");
        key(x, "ab11", "5 0 1 101 0");
        key(x, "ab13", "5 0 1 103 0");
        key(x, "abcabc12", "4 4 0 1 1 101 102 0");
    }

    private static void fullLine() {
        Driven x = second("&a<abc<a1<a11");
        key(x, "abcabcabcabc", "4 4 4 4 0 1 1 1 1 0");
        key(x, "bcdefghabcab", "7 8 9 10 11 12 13 4 3 7 0 1 1 1 1 1 1 1 1 1 1 0");
        key(x, "bcdefghbcda1", "7 8 9 10 11 12 13 7 8 9 5 0 1 1 1 1 1 1 1 1 1 1 1 0");
        key(x, "a11111111111", "6 0 1 101 101 101 101 101 101 101 101 101 0");
        key(x, "-33333333331", "2 0 1 101 103 103 103 103 103 103 103 103 103 103 0");
    }
}
