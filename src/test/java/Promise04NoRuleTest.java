/** The sentences of promise 4 on lines that are no rules. */
public final class Promise04NoRuleTest {
    private static final Due DUE = new Due("promise 4, no rule");
    private static final String LETTERS = "abcdefghABCDEFGH";
    private static final String MORE = LETTERS + "1234<=";

    public static void main(String[] args) {
        DUE.sentence("When it is no rule: line 2 is empty", () -> noRule("", -1));
        DUE.sentence("p for nothing but & at the start", () -> {
            ceases("", "&");
            noRule(" &a<b", -1);
            noRule("a<b", -1);
            noRule("<b", -1);
        });
        DUE.sentence("p for nothing but a letter behind &", () -> ceases("&", LETTERS));
        DUE.sentence("p behind a first string of one or two characters", () -> {
            ceases("&a", MORE);
            ceases("&H3", MORE);
        });
        DUE.sentence("p behind a first string of three characters", () -> {
            ceases("&abc", "<=");
            ceases("&a12", "<=");
        });
        DUE.sentence("p behind < and <<", () -> {
            ceases("&a<", LETTERS + "<");
            ceases("&a<<", LETTERS + "<");
            ceases("&a1H<", LETTERS + "<");
        });
        DUE.sentence("p behind <<<", () -> ceases("&a<<<", LETTERS));
        DUE.sentence("p behind =", () -> ceases("&a=", LETTERS));
        DUE.sentence("p behind a string of one or two characters", () -> {
            ceases("&a<b", MORE);
            ceases("&a<<b4", MORE);
            ceases("&a=bc", MORE);
        });
        DUE.sentence("p behind a string of three characters", () -> {
            ceases("&a<bcd", "<=");
            ceases("&a<<<b14", "<=");
        });
        DUE.sentence("p behind a later sign and string", Promise04NoRuleTest::laterPlaces);
        DUE.sentence("p is the least number, whatever comes behind", Promise04NoRuleTest::leastNumber);
        DUE.sentence("p is its length: a line that is only the beginning of a rule", Promise04NoRuleTest::beginnings);
        DUE.sentence("beginnings are looked for among all rules, however long", Promise04NoRuleTest::howeverLong);
        DUE.sentence("no rule stands before -100, -101 and -102", Promise04NoRuleTest::beforeRefusals);
        DUE.end();
    }

    private static void noRule(String line, int answer) {
        Driven x = new Driven();
        DUE.is("tailor() of " + line, x.rule(line), answer);
        DUE.is("line 2 behind " + line, x.wipe(2), 0);
        DUE.is("the table behind " + line, x.table(), Driven.FIRST_TABLE);
    }

    /** Every character behind a beginning: those that may follow, and all others. */
    private static void ceases(String beginning, String mayFollow) {
        for (char c = 32; c <= 126; c++) {
            String line = beginning + c;
            if (mayFollow.indexOf(c) < 0) {
                noRule(line, -1 - beginning.length());
                noRule(line + "<b", -1 - beginning.length());
                continue;
            }
            // One that may follow is no fault; a sign without a string is a beginning then.
            Driven x = new Driven();
            int answer = x.rule(line + (c == '&' ? "a<!" : "<=".indexOf(c) >= 0 ? "!" : "<!"));
            int fault = c == '&' ? line.length() + 2 : "<=".indexOf(c) >= 0 ? line.length() : line.length() + 1;
            DUE.is("tailor() of " + line + " and a fault behind", answer, -1 - fault);
        }
    }

    private static void laterPlaces() {
        ceases("&a<b<", LETTERS + "<");
        ceases("&a=b<<", LETTERS + "<");
        ceases("&a<b<<<", LETTERS);
        ceases("&a<<b=", LETTERS);
        ceases("&a<b1=c", MORE);
        ceases("&a<b<cd", MORE);
        ceases("&a<b<<cd3", "<=");
        ceases("&a<b=c<d<<e<<<f=g1", MORE);
    }

    private static void leastNumber() {
        noRule("&a<=b=!", -4);
        noRule("&1<1<1", -2);
        noRule("&&&&&&", -2);
        noRule("&a<<<<b<<<<c", -6);
        noRule("&abcd<efgh<abcd", -5);
        noRule("&a<b=c&d<e&f", -7);
        noRule("!!!!!!!!!!!!!!!!!!!!!!!!", -1);
        noRule("&a<b <c ", -5);
    }

    private static void beginnings() {
        String[] beginnings = {"&", "&a", "&a1", "&ab", "&abc", "&a14", "&a<", "&a<<", "&a<<<", "&a=", "&abc<",
            "&abc=", "&a<b<", "&a<b<<", "&a<b<<<", "&a<b=", "&a<bc1=", "&a=b=c=", "&a<<<b<<<c<<<"};
        for (String beginning : beginnings) {
            noRule(beginning, -1 - beginning.length());
        }
    }

    private static void howeverLong() {
        noRule("&a<b<c<d<e<f<g<h<A<B<CC<", -25);
        noRule("&a=b=c=d=e=f=g=h=A=B=CC=", -25);
        noRule("&a<b<c<d<e<f<g<h<A<B<C<<", -25);
        noRule("&a<b<c<d<e<f<g<h<A<BB<<<", -25);
        noRule("&abc<<<abc<<<abc<<<abc<<", -25);
        noRule("&a<b<c<d<e<f<g<h<A<B<C<!", -24);
        noRule("&a<b<c<d<e<f<g<h<A<B<<<<", -24);
        noRule("&a<b<c<d<e<f<g<h<A<BBB<1", -24);
        noRule("&a<b<c<d<e<f<g<h<A<BBBB<", -23);
        noRule("&a<b<c<d<e<f<g<h<A<B<C<", -24);
    }

    private static void beforeRefusals() {
        noRule("&ab<c!", -6);
        noRule("&ab<", -5);
        noRule("&a<a!", -5);
        noRule("&a<a<", -6);
        noRule("&a<b<b=1", -8);
        Driven x = new Driven().with("&a<aa<ab<ac<ad<ae<af<ag", "&a<ba<bb<bc<bd<be");
        DUE.is("one more than 30, but no rule", x.rule("&a<ca-"), -6);
        DUE.is("one more than 30, but a beginning", x.rule("&a<ca="), -7);
        DUE.is("entries()", x.entries(), 30);
    }
}
