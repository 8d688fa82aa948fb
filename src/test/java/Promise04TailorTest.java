public final class Promise04TailorTest {
    private static final Due DUE = new Due("promise 4, tailor");

    public static void main(String[] args) {
        noRules();
        longestLines();
        putIn();
        takenOut();
        refusals();
        upToTheLimit();
        atTheLimit();
        DUE.end();
    }

    private static void noRules() {
        noRule("", -1);
        noRule("a", -1);
        noRule(" &a<b", -1);
        noRule("&", -2);
        noRule("&&", -2);
        noRule("&<", -2);
        noRule("&=", -2);
        noRule("&1", -2);
        noRule("& a<b", -2);
        noRule("&-<b", -2);
        noRule("&i<b", -2);
        noRule("&a", -3);
        noRule("&a ", -3);
        noRule("&a-", -3);
        noRule("&a5", -3);
        noRule("&a&", -3);
        noRule("&a0", -3);
        noRule("&abc", -5);
        noRule("&abcd<e", -5);
        noRule("&a123", -5);
        noRule("&a<", -4);
        noRule("&a<1", -4);
        noRule("&a<=b", -4);
        noRule("&a< b", -4);
        noRule("&a=", -4);
        noRule("&a==b", -4);
        noRule("&a=<b", -4);
        noRule("&a<<", -5);
        noRule("&a<<=b", -5);
        noRule("&a<<<", -6);
        noRule("&a<<<<b", -6);
        noRule("&a<<<=b", -6);
        noRule("&a<b<", -6);
        noRule("&a<b ", -5);
        noRule("&a<bcde", -7);
        noRule("&a<b1234", -7);
        noRule("&a<b=c&d<e", -7);
        // No rule stands before every refusal.
        noRule("&ab<c!", -6);
        noRule("&a<a!", -5);
    }

    private static void noRule(String line, int answer) {
        TailoredOrder x = new TailoredOrder();
        DUE.is("tailor() of " + line, Due.rule(x, line), answer);
        DUE.is("line 2 behind " + line, x.wipe(2), 0);
        DUE.is("the table behind " + line, Due.table(x), Due.FIRST_TABLE);
    }

    private static void longestLines() {
        noRule("&a<b<c<d<e<f<g<h<A<B<C<<", -25);
        noRule("&a<b<c<d<e<f<g<h<A<B<CC<", -25);
        noRule("&a<b<c<d<e<f<g<h<A<B<C<!", -24);
        noRule("&abc<<<abc<<<abc<<<abc<<", -25);
        TailoredOrder x = new TailoredOrder();
        DUE.is("a rule of 24 characters", Due.rule(x, "&a<b<c<d<e<f<g<h<A<B<C<D"), 18);
        DUE.is("line 2 behind it", x.wipe(2), 0);
        DUE.is("its table", Due.table(x),
            " :1 -:1 a:1 b:1 c:1 d:1 e:1 f:1 g:1 h:1 A:1 B:1 C:1 D:1 E:1 F:1 G:1 H:1");
    }

    private static void putIn() {
        after("&a<ab", 19, "a:1 A:3 ab:1 b:1 B:3");
        after("&a<<ab", 19, "a:1 A:3 ab:2 b:1 B:3");
        after("&a<<<ab", 19, "a:1 ab:3 A:3 b:1 B:3");
        after("&a=ab", 19, "a:1 ab:4 A:3 b:1 B:3");
        after("&A=ab", 19, "a:1 A:3 ab:4 b:1 B:3");
        after("&A<<ab", 19, "a:1 A:3 ab:2 b:1 B:3");
        after("&a=ab=ac=ad", 21, "a:1 ab:4 ac:4 ad:4 A:3 b:1 B:3");
        after("&a<<<ab=ac<<ad<ae", 22, "a:1 ab:3 ac:4 A:3 ad:2 ae:1 b:1 B:3");
        after("&a=a1<<<a2=a3<<a13<<<a4", 23, "a:1 a1:4 a2:3 a3:4 A:3 a13:2 a4:3 b:1 B:3");
        after("&H<ha", 19, "h:1 H:3 ha:1");
        after("&a<h1H=H24", 20, "A:3 h1H:1 H24:4 b:1");

        TailoredOrder x = new TailoredOrder();
        DUE.is("&a<<a1", Due.rule(x, "&a<<a1"), 19);
        DUE.is("&a<<a2 puts in behind A, not behind a1", Due.rule(x, "&a<<a2"), 20);
        holds(x, "a:1 A:3 a2:2 a1:2 b:1");
        DUE.is("&a1<<<a3 behind a string of two", Due.rule(x, "&a1<<<a3"), 21);
        holds(x, "a:1 A:3 a2:2 a1:2 a3:3 b:1");
        DUE.is("&a2<a4 behind steps 2 and 3", Due.rule(x, "&a2<a4"), 22);
        holds(x, "a:1 A:3 a2:2 a1:2 a3:3 a4:1 b:1");
    }

    private static void takenOut() {
        after("&a<b", 18, "a:1 A:3 b:1 B:1 c:1");
        after("&a<<<c", 18, "a:1 c:3 A:3 b:1 B:3 C:1 d:1");
        after("&c<B", 18, "b:1 c:1 C:3 B:1 d:1");
        after("&h<<g", 18, "f:1 F:3 G:1 h:1 H:3 g:2");
        after("&a<H", 18, "a:1 A:3 H:1 b:1");
        after("&a<A", 18, "a:1 A:1 b:1");
        after("&b<a", 18, "-:1 A:1 b:1 B:3 a:1 c:1");
        after("&c=a=c1", 19, "-:1 A:1 b:1 B:3 c:1 a:4 c1:4 C:3 d:1");
        after("&a<b<a", 18, "-:1 A:1 b:1 a:1 B:1 c:1");
        // A string that comes twice is put in twice, and found at the later place.
        after("&a<<a1<a2<a1", 20, "a:1 A:3 a2:1 a1:1 b:1");

        TailoredOrder x = new TailoredOrder();
        Due.rule(x, "&a<<a1=a2<<<a3");
        holds(x, "a:1 A:3 a1:2 a2:4 a3:3 b:1");
        DUE.is("&h<a1", Due.rule(x, "&h<a1"), 21);
        holds(x, "a:1 A:3 a2:2 a3:3 b:1");
        DUE.is("&h<a3", Due.rule(x, "&h<a3"), 21);
        holds(x, "a:1 A:3 a2:2 b:1");
    }

    private static void refusals() {
        refused("&ab<c", -100);
        refused("&a1<a1", -100);
        refused("&a<a", -101);
        refused("&a<b<b", -101);
        refused("&a<b=c<<c", -101);
        refused("&a<a1<<a2=a2", -101);
        refused("&ab<a<a", -100);

        TailoredOrder x = new TailoredOrder();
        Due.rule(x, "&a<a1");
        String table = Due.table(x);
        String weights = Due.weights(x, 5);
        DUE.is("a rule refused at its end", Due.rule(x, "&a1<<b<<<c<a<a"), -101);
        DUE.is("the table behind it", Due.table(x), table);
        DUE.is("the weights behind it", Due.weights(x, 5), weights);
        DUE.is("a good rule behind it", Due.rule(x, "&a1<<<b"), 19);
        holds(x, "A:3 a1:1 b:3 B:1 c:1");
    }

    private static void refused(String rule, int answer) {
        noRule(rule, answer);
    }

    private static TailoredOrder with29() {
        TailoredOrder x = new TailoredOrder();
        DUE.is("seven more", Due.rule(x, "&a<aa<ab<ac<ad<ae<af<ag"), 25);
        DUE.is("four more", Due.rule(x, "&a<ba<bb<bc<bd"), 29);
        return x;
    }

    private static void upToTheLimit() {
        TailoredOrder x = with29();
        String table = Due.table(x);
        DUE.is("two more", Due.rule(x, "&a<ca<cb"), -102);
        DUE.is("the table of 29", Due.table(x), table);
        DUE.is("the anchor before the limit", Due.rule(x, "&a<a<ca<cb"), -101);
        DUE.is("the limit before the anchor", Due.rule(x, "&a<ca<cb<cb"), -102);
    }

    private static void atTheLimit() {
        TailoredOrder x = with29();
        DUE.is("the 30th", Due.rule(x, "&a<ca"), 30);
        DUE.is("entries()", x.entries(), 30);
        String table = Due.table(x);
        DUE.is("one more", Due.rule(x, "&a<cb"), -102);
        DUE.is("one taken out and one more", Due.rule(x, "&a<b<cb"), -102);
        DUE.is("the table of 30", Due.table(x), table);
        DUE.is("no entry comes first", Due.rule(x, "&cb<cc"), -100);
        DUE.is("one taken out of 30", Due.rule(x, "&aa<b=H"), 30);
        DUE.is("the last of 30 taken out", Due.rule(x, "&h<a"), 30);
        DUE.is("behind the last of 30", Due.rule(x, "&a<b"), 30);
        DUE.is("that entry", Due.string(x, 29), "b");
    }

    private static void after(String rule, int answer, String part) {
        TailoredOrder x = new TailoredOrder();
        DUE.is("tailor() of " + rule, Due.rule(x, rule), answer);
        DUE.is("entries() behind " + rule, x.entries(), answer);
        DUE.is("line 2 behind " + rule, x.wipe(2), 0);
        holds(x, part);
    }

    private static void holds(TailoredOrder x, String part) {
        String row = " " + Due.table(x) + " ";
        DUE.is("the table " + row + " holds " + part, row.contains(" " + part + " "), true);
    }
}
