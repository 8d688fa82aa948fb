public final class Promise06EntryTest {
    private static final Due DUE = new Due("promise 6, entry");

    public static void main(String[] args) {
        DUE.sentence("for what = 0, 1, 2 that character of its string", Promise06EntryTest::characters);
        DUE.sentence("-1 if it has not so many", Promise06EntryTest::fewerCharacters);
        DUE.sentence("for 3 its step", Promise06EntryTest::steps);
        DUE.sentence("for 4 its primary", Promise06EntryTest::primaries);
        DUE.sentence("for 5 its secondary", Promise06EntryTest::secondaries);
        DUE.sentence("for 6 its tertiary", Promise06EntryTest::tertiaries);
        DUE.sentence("the weights follow from the steps as they are now", Promise06EntryTest::weightsNow);
        DUE.sentence("-2 when there is no such entry", Promise06EntryTest::noSuchEntry);
        DUE.sentence("-2 when there is no such entry: the table has grown up to 30", Promise06EntryTest::grownTable);
        DUE.sentence("-2 when there is no such what", Promise06EntryTest::noSuchWhat);
        DUE.sentence("-2 when there is neither such an entry nor such a what", Promise06EntryTest::neither);
        DUE.end();
    }

    private static void characters() {
        Driven x = new Driven();
        String strings = " -aAbBcCdDeEfFgGhH";
        for (int i = 0; i < 18; i++) {
            DUE.is("entry(" + i + ", 0)", x.entry(i, 0), (int) strings.charAt(i));
        }
        Driven y = new Driven().with("&A<a1<<cH4");
        int[] due = {'a', '1', -1, 'c', 'H', '4'};
        for (int k = 0; k < 6; k++) {
            DUE.is("entry(" + (4 + k / 3) + ", " + k % 3 + ")", y.entry(4 + k / 3, k % 3), due[k]);
        }
        DUE.is("the entries behind are moved", y.entry(6, 0) + " " + y.entry(19, 0), (int) 'b' + " " + (int) 'H');
    }

    private static void fewerCharacters() {
        Driven x = new Driven();
        for (int i = 0; i < 18; i++) {
            DUE.is("entry(" + i + ", 1)", x.entry(i, 1), -1);
            DUE.is("entry(" + i + ", 2)", x.entry(i, 2), -1);
        }
        Driven y = new Driven().with("&A<abc<de<f");
        DUE.is("entry(4, 2) of abc", y.entry(4, 2), (int) 'c');
        DUE.is("entry(5, 1) of de", y.entry(5, 1), (int) 'e');
        DUE.is("entry(5, 2) of de", y.entry(5, 2), -1);
        DUE.is("entry(6, 1) of f", y.entry(6, 1), -1);
        DUE.is("entry(6, 2) of f", y.entry(6, 2), -1);
        // A short string where a long one stood has nothing of it.
        y.with("&f<abc");
        DUE.is("entry(4, 2) of de", y.entry(4, 2), -1);
        DUE.is("entry(5, 1) of f", y.entry(5, 1), -1);
    }

    private static void steps() {
        Driven x = new Driven();
        for (int i = 0; i < 18; i++) {
            DUE.is("entry(" + i + ", 3)", x.entry(i, 3), i > 2 && i % 2 == 1 ? 3 : 1);
        }
        Driven y = new Driven().with("&A<a1<<a2<<<a3=a4");
        for (int step = 1; step <= 4; step++) {
            DUE.is("entry(" + (3 + step) + ", 3)", y.entry(3 + step, 3), step);
        }
    }

    /** - a A a1:4 a2:3 a3:2 a4:4 b1:3 b2:2 b3:3 b4:1 b B .. */
    private static Driven withAllSteps() {
        return new Driven().with("&A=a1<<<a2<<a3=a4<<<b1", "&b1<<b2<<<b3<b4");
    }

    private static void weights(int what, int[] first, int[] due) {
        Driven x = new Driven();
        for (int i = 0; i < 18; i++) {
            DUE.is("entry(" + i + ", " + what + ")", x.entry(i, what), first[i]);
        }
        Driven y = withAllSteps();
        for (int i = 0; i < due.length; i++) {
            DUE.is("entry(" + i + ", " + what + ") with all steps", y.entry(i, what), due[i]);
        }
    }

    private static void primaries() {
        weights(4, new int[] {1, 2, 3, 3, 4, 4, 5, 5, 6, 6, 7, 7, 8, 8, 9, 9, 10, 10},
            new int[] {1, 2, 3, 3, 3, 3, 3, 3, 3, 3, 3, 4, 5, 5, 6});
    }

    private static void secondaries() {
        weights(5, new int[] {1, 1, 1, 1, 1, 1, 1, 1, 1, 1, 1, 1, 1, 1, 1, 1, 1, 1},
            new int[] {1, 1, 1, 1, 1, 1, 2, 2, 2, 3, 3, 1, 1, 1, 1});
    }

    private static void tertiaries() {
        weights(6, new int[] {1, 1, 1, 2, 1, 2, 1, 2, 1, 2, 1, 2, 1, 2, 1, 2, 1, 2},
            new int[] {1, 1, 1, 2, 2, 3, 1, 1, 2, 1, 2, 1, 1, 2, 1});
    }

    private static void weightsNow() {
        Driven x = new Driven().with("&a<b");
        DUE.is("b behind &a<b", x.weights(4), "4 1 1");
        DUE.is("B has b's step behind &a<b", x.weights(5), "5 1 1");
        DUE.is("c behind &a<b", x.weights(6), "6 1 1");
        DUE.is("the last one behind &a<b", x.weights(17), "11 1 2");
        x.with("&a<<b<<<c");
        DUE.is("b behind &a<<b<<<c", x.string(4) + " " + x.weights(4), "b 3 2 1");
        DUE.is("c behind &a<<b<<<c", x.string(5) + " " + x.weights(5), "c 3 2 2");
        DUE.is("B behind &a<<b<<<c", x.string(6) + " " + x.weights(6), "B 4 1 1");
        DUE.is("C behind &a<<b<<<c", x.string(7) + " " + x.weights(7), "C 5 1 1");
    }

    private static void noSuchEntry() {
        Driven x = new Driven();
        for (int i : new int[] {-1, 18, 19, 29, 30, 31, Integer.MIN_VALUE, Integer.MAX_VALUE}) {
            for (int what = 0; what < 7; what++) {
                DUE.is("entry(" + i + ", " + what + ")", x.entry(i, what), -2);
            }
        }
    }

    private static void grownTable() {
        Driven x = new Driven().with("&H<aa<ab<ac<ad<ae<af<ag");
        DUE.is("entry(24, 0)", x.entry(24, 0), (int) 'a');
        DUE.is("entry(25, 0)", x.entry(25, 0), -2);
        x.rule("&a<a1<a1");
        DUE.is("entry(25, 0) behind a refused rule", x.entry(25, 0), -2);
        x.with("&ag<ba<bb<bc<bd<be");
        for (int what = 0; what < 7; what++) {
            DUE.is("entry(29, " + what + ")", x.entry(29, what), new int[] {'b', 'e', -1, 1, 22, 1, 1}[what]);
            DUE.is("entry(30, " + what + ")", x.entry(30, what), -2);
            DUE.is("entry(-1, " + what + ")", x.entry(-1, what), -2);
        }
    }

    private static void noSuchWhat() {
        Driven x = new Driven().with("&H<abc");
        for (int i : new int[] {0, 2, 17, 18}) {
            for (int what : new int[] {-1, 7, -2, 8, Integer.MIN_VALUE, Integer.MAX_VALUE}) {
                DUE.is("entry(" + i + ", " + what + ")", x.entry(i, what), -2);
            }
        }
    }

    private static void neither() {
        Driven x = new Driven();
        for (int i : new int[] {-1, 18, Integer.MIN_VALUE, Integer.MAX_VALUE}) {
            for (int what : new int[] {-1, 7, Integer.MIN_VALUE, Integer.MAX_VALUE}) {
                DUE.is("entry(" + i + ", " + what + ")", x.entry(i, what), -2);
            }
        }
    }
}
