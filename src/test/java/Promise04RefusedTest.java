import java.util.function.Supplier;

/** The sentences of promise 4 on rules that are refused, and on line 2 afterwards. */
public final class Promise04RefusedTest {
    private static final Due DUE = new Due("promise 4, refused rules");

    public static void main(String[] args) {
        DUE.sentence("-100, the first string is not that of an entry", Promise04RefusedTest::firstString);
        DUE.sentence("-101, a string is that of the anchor: the first anchor", Promise04RefusedTest::firstAnchor);
        DUE.sentence("-101, a string is that of the anchor: a later anchor", Promise04RefusedTest::laterAnchor);
        DUE.sentence("-101 not for a string that only begins as the anchor does", Promise04RefusedTest::alike);
        DUE.sentence("-101 not for a string that was the anchor before", Promise04RefusedTest::anchorBefore);
        DUE.sentence("the first of these that comes up", Promise04RefusedTest::firstThatComesUp);
        DUE.sentence("then nothing of it is done: the table", Promise04RefusedTest::tableStays);
        DUE.sentence("then nothing of it is done: the weights, the keys and the order", Promise04RefusedTest::allStays);
        DUE.sentence("then nothing of it is done: a next rule finds none of its strings",
            Promise04RefusedTest::nextRule);
        DUE.sentence("Line 2 is empty afterwards in any case", Promise04RefusedTest::lineIsEmpty);
        DUE.sentence("Line 2 is empty afterwards: it takes 24 characters again", Promise04RefusedTest::lineTakesAll);
        DUE.end();
    }

    private static Driven with30() {
        return new Driven().with("&a<aa<ab<ac<ad<ae<af<ag", "&a<ba<bb<bc<bd<be");
    }

    private static void refused(Driven x, String rule, int answer) {
        DUE.is("tailor() of " + rule, x.rule(rule), answer);
    }

    private static void firstString() {
        Driven x = new Driven();
        for (String rule : new String[] {"&ab<c", "&a1<b", "&abc<d", "&aa=a", "&a1<a1", "&h4=h", "&H11<<<H"}) {
            refused(x, rule, -100);
        }
        DUE.is("the table", x.table(), Driven.FIRST_TABLE);
        x.with("&a<abc");
        refused(x, "&ab<c", -100);
        refused(x, "&bc<c", -100);
        refused(x, "&abC<c", -100);
        DUE.is("&abc<c", x.rule("&abc<c"), 19);
        x.with("&a<ab");
        refused(x, "&ab1<c", -100);
        refused(x, "&ba<c", -100);
        DUE.is("entries()", x.entries(), 20);
    }

    private static void firstAnchor() {
        for (String sign : new String[] {"<", "<<", "<<<", "="}) {
            refused(new Driven(), "&a" + sign + "a", -101);
            refused(new Driven(), "&H" + sign + "H", -101);
            Driven x = new Driven().with("&a<b1<cD4");
            refused(x, "&b1" + sign + "b1", -101);
            refused(x, "&cD4" + sign + "cD4", -101);
        }
    }

    private static void laterAnchor() {
        for (String sign : new String[] {"<", "<<", "<<<", "="}) {
            refused(new Driven(), "&a<b" + sign + "b", -101);
            refused(new Driven(), "&a=b1" + sign + "b1", -101);
            refused(new Driven(), "&a<<b<<<c12" + sign + "c12", -101);
            refused(new Driven(), "&a<b<c<d<e" + sign + "e<f", -101);
        }
    }

    private static void alike() {
        DUE.is("&a<aa", new Driven().rule("&a<aa"), 19);
        DUE.is("&a<A", new Driven().rule("&a<A"), 18);
        DUE.is("&a<a1<a", new Driven().rule("&a<a1<a"), 19);
        DUE.is("&a<ab<ab1<abc<ab", new Driven().rule("&a<ab<ab1<abc<ab"), 21);
        DUE.is("&a<ab<ba<ab", new Driven().rule("&a<ab<ba<ab"), 20);
    }

    private static void anchorBefore() {
        DUE.is("&a<b<a", new Driven().rule("&a<b<a"), 18);
        DUE.is("&a<b<a<b<a<b", new Driven().rule("&a<b<a<b<a<b"), 18);
        DUE.is("&a<a1=a2=a1", new Driven().rule("&a<a1=a2=a1"), 20);
    }

    private static void firstThatComesUp() {
        refused(new Driven(), "&ab<a<a", -100);
        refused(new Driven(), "&ab<ab", -100);
        Driven x = with30();
        refused(x, "&cb<cc", -100);
        refused(x, "&cb<cb", -100);
        refused(x, "&a<a<cb", -101);
        refused(x, "&a<b<b<cb", -101);
        refused(x, "&a<cb<cb", -102);
        refused(x, "&a<b<cb<a<a", -102);
        DUE.is("entries()", x.entries(), 30);
    }

    private static void tableStays() {
        tableStays(Driven::new, "&ab<c<d", -100);
        tableStays(Driven::new, "&a<b<c<d=ab<<<ac=ac", -101);
        tableStays(Driven::new, "&h<<<b<a1<a<H=H", -101);
        tableStays(() -> new Driven().with("&a<a1"), "&a1<<b<<<c<a<a", -101);
        tableStays(Promise04RefusedTest::with30, "&a<b<c=H<<g<cb", -102);
        tableStays(Promise04RefusedTest::with30, "&h<aa<bb<H=ab=a=A=be=dh", -102);
    }

    private static void tableStays(Supplier<Driven> made, String rule, int answer) {
        Driven x = made.get();
        String table = x.table();
        refused(x, rule, answer);
        DUE.is("the table behind " + rule, x.table(), table);
    }

    private static Driven ready() {
        Driven x = new Driven().with("&a<<a1");
        x.write(1, "Ba1");
        for (String text : new String[] {"b", "a1", "B", "a", "h"}) {
            x.file(text);
        }
        x.write(0, "abA-c");
        return x;
    }

    private static void allStays() {
        String all = ready().all();
        Driven x = ready();
        refused(x, "&h<a<b1<A=A", -101);
        DUE.is("all behind &h<a<b1<A=A", x.all(), all);
        Driven y = ready();
        refused(y, "&b1<a", -100);
        DUE.is("all behind &b1<a", y.all(), all);
        Driven z = ready();
        refused(z, "&h<a<b1<A=A=", -13);
        DUE.is("all behind &h<a<b1<A=A=", z.all(), all);
        Driven w = with30();
        w.write(0, "abA-c");
        w.file("b");
        w.file("a");
        String key = w.keyOf("abA-c");
        String order = w.order();
        refused(w, "&h<a<cb", -102);
        DUE.is("the key behind &h<a<cb", w.key(0), key);
        DUE.is("the order behind &h<a<cb", w.order(), order);
        DUE.is("the weights behind &h<a<cb", w.weights(2) + " | " + w.weights(29), "3 1 1 | 22 1 2");
    }

    private static void nextRule() {
        Driven x = new Driven();
        refused(x, "&a<a1<b1<b1", -101);
        refused(x, "&a1<c", -100);
        refused(x, "&b1<c", -100);
        DUE.is("&a<b1", x.rule("&a<b1"), 19);
        refused(x, "&b1<a1<a1", -101);
        DUE.is("&b1<<<b", x.rule("&b1<<<b"), 19);
        DUE.is("the table", x.table(),
            " :1 -:1 a:1 A:3 b1:1 b:3 B:1 c:1 C:3 d:1 D:3 e:1 E:3 f:1 F:3 g:1 G:3 h:1 H:3");
    }

    private static void lineIsEmpty() {
        Driven x = with30();
        String[] rules = {"", "!", "&", "&a", "&a<", "&a<b!", "&a<b", "&cb<a", "&a<a", "&a<b<b", "&a<cb",
            "&a<b<c<d<e<f<g<h<A<B<C<D", "&a<b<c<d<e<f<g<h<A<B<CC<"};
        for (String rule : rules) {
            x.rule(rule);
            DUE.is("wipe(2) behind tailor() of " + rule, x.wipe(2), 0);
        }
        for (String rule : rules) {
            x.rule(rule);
            DUE.is("tailor() behind tailor() of " + rule, x.tailor(), -1);
        }
    }

    private static void lineTakesAll() {
        for (String first : new String[] {"&a<b", "&a", "&", "!", "&ab<c", "&a<a"}) {
            Driven x = new Driven();
            x.rule(first);
            x.add(0, "b");
            DUE.is("24 characters behind " + first, x.rule("&a<b<c<d<e<f<g<h<A<B<C<D"), 18);
            DUE.is("line 0 stays", x.wipe(0), 1);
        }
        Driven y = with30();
        DUE.is("&a<cb", y.rule("&a<cb"), -102);
        DUE.is("24 characters behind -102", y.rule("&a<b<c<d<e<f<g<h<A<B<C<D"), 30);
    }
}
