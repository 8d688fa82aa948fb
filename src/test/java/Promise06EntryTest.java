public final class Promise06EntryTest {
    private static final Due DUE = new Due("promise 6, entry");

    public static void main(String[] args) {
        TailoredOrder x = new TailoredOrder();
        firstTable(x);
        wrongInputs(x, 18);
        strings();
        weights();
        weightsBehindTakingOut();
        DUE.end();
    }

    private static void firstTable(TailoredOrder x) {
        String strings = " -aAbBcCdDeEfFgGhH";
        for (int i = 0; i < 18; i++) {
            boolean capital = i > 2 && i % 2 == 1;
            DUE.is("entry(" + i + ", 0)", x.entry(i, 0), (int) strings.charAt(i));
            DUE.is("entry(" + i + ", 1)", x.entry(i, 1), -1);
            DUE.is("entry(" + i + ", 2)", x.entry(i, 2), -1);
            DUE.is("entry(" + i + ", 3)", x.entry(i, 3), capital ? 3 : 1);
            DUE.is("entry(" + i + ", 4)", x.entry(i, 4), i < 2 ? i + 1 : i / 2 + 2);
            DUE.is("entry(" + i + ", 5)", x.entry(i, 5), 1);
            DUE.is("entry(" + i + ", 6)", x.entry(i, 6), capital ? 2 : 1);
        }
    }

    private static void wrongInputs(TailoredOrder x, int entries) {
        int[] noEntries = {-1, entries, entries + 1, 29, 30, 31, Integer.MIN_VALUE, Integer.MAX_VALUE};
        for (int i : noEntries) {
            for (int what = -1; what < 8; what++) {
                DUE.is("entry(" + i + ", " + what + ")", x.entry(i, what), -2);
            }
        }
        for (int what : new int[] {-1, 7, 8, Integer.MIN_VALUE, Integer.MAX_VALUE}) {
            DUE.is("entry(0, " + what + ")", x.entry(0, what), -2);
        }
    }

    private static void strings() {
        TailoredOrder x = new TailoredOrder();
        Due.rule(x, "&A<a1<<cH4");
        DUE.is("entry(4, 0)", x.entry(4, 0), (int) 'a');
        DUE.is("entry(4, 1)", x.entry(4, 1), (int) '1');
        DUE.is("entry(4, 2)", x.entry(4, 2), -1);
        DUE.is("entry(5, 0)", x.entry(5, 0), (int) 'c');
        DUE.is("entry(5, 1)", x.entry(5, 1), (int) 'H');
        DUE.is("entry(5, 2)", x.entry(5, 2), (int) '4');
        DUE.is("entry(5, 3)", x.entry(5, 3), 2);
        DUE.is("entry(19, 0)", x.entry(19, 0), (int) 'H');
        DUE.is("entry(20, 0)", x.entry(20, 0), -2);
    }

    private static void weights() {
        TailoredOrder x = new TailoredOrder();
        Due.rule(x, "&A=a1<<<a2<<a3=a4<<<b1");
        Due.rule(x, "&b1<<b2<<<b3<b4");
        // - a A a1:4 a2:3 a3:2 a4:4 b1:3 b2:2 b3:3 b4:1 b B
        String[] due = {"2 1 1", "3 1 1", "3 1 2", "3 1 2", "3 1 3", "3 2 1", "3 2 1", "3 2 2",
            "3 3 1", "3 3 2", "4 1 1", "5 1 1", "5 1 2"};
        for (int i = 0; i < due.length; i++) {
            DUE.is("the weights of entry " + (i + 1), Due.weights(x, i + 1), due[i]);
        }
    }

    private static void weightsBehindTakingOut() {
        TailoredOrder x = new TailoredOrder();
        Due.rule(x, "&a<b");
        DUE.is("b behind &a<b", Due.weights(x, 4), "4 1 1");
        DUE.is("B has b's step behind &a<b", Due.weights(x, 5), "5 1 1");
        DUE.is("c behind &a<b", Due.weights(x, 6), "6 1 1");
    }
}
