/** The 512th call of an object is answered as due, as the first one is. */
public final class LastCallTest {
    private static final Due DUE = new Due("An object is used for at most 512 calls");

    public static void main(String[] args) {
        DUE.sentence("512 calls of file and unfile", LastCallTest::numbers);
        DUE.sentence("512 calls with rules that are done", LastCallTest::rules);
        DUE.sentence("512 calls, the last one a refused rule", LastCallTest::refusedRule);
        DUE.sentence("512 calls of type and wipe", LastCallTest::lines);
        DUE.sentence("512 questions", LastCallTest::questions);
        DUE.end();
    }

    private static void isLast(Driven x) {
        DUE.is("how many calls there were", x.calls(), Driven.CALLS);
    }

    private static void numbers() {
        Driven x = new Driven();
        for (int number = 0; number < 10; number++) {
            DUE.is("file(0)", x.file(0), number);
        }
        for (int number = 10; number <= 260; number++) {
            DUE.is("unfile(" + (number - 10) + ")", x.unfile(number - 10), true);
            DUE.is("file(0)", x.file(0), number);
        }
        isLast(x);
        Driven y = new Driven();
        for (int number = 0; number < 256; number++) {
            DUE.is("file(1)", y.file(1), number);
            DUE.is("unfile(" + number + ")", y.unfile(number), true);
        }
        isLast(y);
    }

    private static void rules() {
        Driven x = new Driven();
        for (int turn = 0; turn < 102; turn++) {
            DUE.is("a rule of turn " + turn, x.rule(turn % 2 == 0 ? "&h<a" : "&A<a"), 18);
        }
        DUE.is("the last entry", x.entry(17, 0), (int) 'H');
        DUE.is("its primary", x.entry(17, 4), 11);
        isLast(x);
    }

    private static void refusedRule() {
        Driven x = new Driven();
        for (int turn = 0; turn < 63; turn++) {
            DUE.is("a rule of turn " + turn, x.rule("&a<ab=a"), 19);
        }
        for (int call = x.calls(); call < Driven.CALLS - 5; call++) {
            DUE.is("tailor() of nothing", x.tailor(), -1);
        }
        DUE.is("a refused rule", x.rule("&a=a"), -101);
        isLast(x);
    }

    private static void lines() {
        Driven x = new Driven();
        for (int turn = 0; turn < 36; turn++) {
            for (int i = 0; i < 13; i++) {
                DUE.is("type(0, h)", x.type(0, 'h'), i < 12);
            }
            DUE.is("wipe(0)", x.wipe(0), 12);
        }
        for (int i = 0; i < 7; i++) {
            DUE.is("wipe(1)", x.wipe(1), 0);
        }
        DUE.is("wipe(3)", x.wipe(3), -1);
        isLast(x);
    }

    private static void questions() {
        Driven x = new Driven();
        x.file("b");
        x.write(1, "A");
        for (int call = x.calls(); call < Driven.CALLS - 3; call += 4) {
            DUE.is("compare()", x.compare(), 1);
            DUE.is("below(0)", x.below(0), 0);
            DUE.is("inOrder(0)", x.inOrder(0), 0);
            DUE.is("keyAt(1, 4)", x.keyAt(1, 4), 2);
        }
        while (x.calls() < Driven.CALLS) {
            DUE.is("filed()", x.filed(), 1);
        }
        isLast(x);
    }
}
