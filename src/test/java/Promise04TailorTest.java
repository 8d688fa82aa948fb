import java.util.Set;
import java.util.TreeSet;

/** The sentences of promise 4, and of the terms, on rules that are done, up to the last one for which there is room. */
public final class Promise04TailorTest {
    private static final Due DUE = new Due("promise 4, tailor");

    public static void main(String[] args) {
        DUE.sentence("a rule is done: each string is put in behind the anchor, and is the anchor then",
            Promise04TailorTest::newEntryIsTheAnchor);
        DUE.sentence("put in: behind all those right behind it that have steps greater than s",
            Promise04TailorTest::putInBehindGreaterSteps);
        DUE.sentence("put in: not behind one with the same step", Promise04TailorTest::putInBeforeTheSameStep);
        DUE.sentence("put in: at the end of the table", Promise04TailorTest::putInAtTheEnd);
        DUE.sentence("taken out: the one behind it gets the lesser of both steps",
            Promise04TailorTest::takenOutLesserStep);
        DUE.sentence("taken out: the one behind it, if any", Promise04TailorTest::takenOutAtTheEnd);
        DUE.sentence("taken out before it is put in", Promise04TailorTest::takenOutFirst);
        DUE.sentence("No two have the same string", Promise04TailorTest::noStringTwice);
        DUE.sentence("a string is a letter and up to two characters more, letters or marks",
            Promise04TailorTest::stringsOfRules);
        DUE.sentence("the strings of the variables stay where they are", Promise04TailorTest::variablesStay);
        DUE.sentence("Otherwise the number of entries", Promise04TailorTest::numberOfEntries);
        DUE.sentence("a rule may have all of the 24 characters", Promise04TailorTest::longestRules);
        DUE.sentence("-102, there would be 31 entries: 30 there may be", Promise04TailorTest::thirtyEntries);
        DUE.sentence("-102, there would be 31 entries", Promise04TailorTest::thirtyOneEntries);
        DUE.sentence("-102 not when a string that the table has is taken out first", Promise04TailorTest::movedAmongThirty);
        DUE.end();
    }

    private static void after(String rule, int answer, String part) {
        Driven x = new Driven();
        DUE.is("tailor() of " + rule, x.rule(rule), answer);
        DUE.is("entries() behind " + rule, x.entries(), answer);
        holds(x, part);
    }

    private static void holds(Driven x, String part) {
        String row = " " + x.table() + " ";
        DUE.is("the table " + row + " holds " + part, row.contains(" " + part + " "), true);
    }

    private static void newEntryIsTheAnchor() {
        after("&a=ab=ac=ad", 21, "a:1 ab:4 ac:4 ad:4 A:3 b:1 B:3");
        after("&a<<<ab=ac<<ad<ae", 22, "a:1 ab:3 ac:4 A:3 ad:2 ae:1 b:1 B:3");
        after("&a=a1<<<a2=a3<<a13<<<a4", 23, "a:1 a1:4 a2:3 a3:4 A:3 a13:2 a4:3 b:1 B:3");
        after("&h<a<<b", 18, "h:1 H:3 a:1 b:2");
        Driven x = new Driven().with("&a<<a1");
        DUE.is("&a1<<<a3 behind a string of two", x.rule("&a1<<<a3"), 20);
        DUE.is("&a3=a3b behind a string of two", x.rule("&a3=a3b"), 21);
        DUE.is("&a3b<c behind a string of three", x.rule("&a3b<c"), 21);
        holds(x, "a:1 A:3 a1:2 a3:3 a3b:4 c:1 b:1 B:3 C:1 d:1");
    }

    private static void putInBehindGreaterSteps() {
        after("&a<ab", 19, "a:1 A:3 ab:1 b:1 B:3");
        after("&a<<ab", 19, "a:1 A:3 ab:2 b:1 B:3");
        after("&A<<ab", 19, "a:1 A:3 ab:2 b:1 B:3");
        Driven x = new Driven().with("&a<<a1<<<a2=a3");
        holds(x, "a:1 A:3 a1:2 a2:3 a3:4 b:1");
        DUE.is("&a<a4 behind the steps 2, 3 and 4", x.rule("&a<a4"), 22);
        holds(x, "a:1 A:3 a1:2 a2:3 a3:4 a4:1 b:1");
        Driven y = new Driven().with("&a<<a1<<<a2=a3");
        DUE.is("&a1<<a4 behind the steps 3 and 4", y.rule("&a1<<a4"), 22);
        holds(y, "a:1 A:3 a1:2 a2:3 a3:4 a4:2 b:1");
        Driven z = new Driven().with("&a=a1=a2");
        DUE.is("&a<<<a4 behind the steps 4", z.rule("&a<<<a4"), 21);
        holds(z, "a:1 a1:4 a2:4 a4:3 A:3 b:1");
    }

    private static void putInBeforeTheSameStep() {
        after("&a<<<ab", 19, "a:1 ab:3 A:3 b:1 B:3");
        after("&a=ab", 19, "a:1 ab:4 A:3 b:1 B:3");
        after("&A=ab", 19, "a:1 A:3 ab:4 b:1 B:3");
        Driven x = new Driven().with("&a<<a1", "&a<<a2");
        holds(x, "a:1 A:3 a2:2 a1:2 b:1");
        Driven y = new Driven().with("&a=a1", "&a=a2");
        holds(y, "a:1 a2:4 a1:4 A:3 b:1");
        Driven z = new Driven().with("&a<a1", "&a<a2");
        holds(z, "a:1 A:3 a2:1 a1:1 b:1");
        Driven w = new Driven().with("&a<<a1=a2", "&a<<<a3");
        holds(w, "a:1 a3:3 A:3 a1:2 a2:4 b:1");
    }

    private static void putInAtTheEnd() {
        for (String sign : new String[] {"<", "<<", "<<<", "="}) {
            int step = sign.equals("=") ? 4 : sign.length();
            Driven x = new Driven();
            DUE.is("&H" + sign + "ha", x.rule("&H" + sign + "ha"), 19);
            DUE.is("the table", x.table(), Driven.FIRST_TABLE + " ha:" + step);
        }
        after("&h<ha", 19, "h:1 H:3 ha:1");
        DUE.is("the last entry", new Driven().with("&h<a").string(17), "a");
    }

    private static void takenOutLesserStep() {
        after("&a<b", 18, "a:1 A:3 b:1 B:1 c:1");
        after("&a<<<c", 18, "a:1 c:3 A:3 b:1 B:3 C:1 d:1");
        after("&c<B", 18, "b:1 c:1 C:3 B:1 d:1");
        after("&h<<g", 18, "f:1 F:3 G:1 h:1 H:3 g:2");
        Driven x = new Driven().with("&a<<a1=a2<<<a3", "&h<a1");
        holds(x, "a:1 A:3 a2:2 a3:3 b:1");
        DUE.is("&h<a3", x.rule("&h<a3"), 21);
        holds(x, "a:1 A:3 a2:2 b:1");
        Driven y = new Driven().with("&A=a1<<<a2=a3", "&h<a2", "&h<a1");
        holds(y, "a:1 A:3 a3:3 b:1");
    }

    private static void takenOutAtTheEnd() {
        Driven x = new Driven();
        DUE.is("&a<H", x.rule("&a<H"), 18);
        DUE.is("the table", x.table(),
            " :1 -:1 a:1 A:3 H:1 b:1 B:3 c:1 C:3 d:1 D:3 e:1 E:3 f:1 F:3 g:1 G:3 h:1");
        Driven y = new Driven();
        DUE.is("&h<<H, the last one to the same place", y.rule("&h<<H"), 18);
        DUE.is("the last entry", y.string(17) + y.entry(17, 3), "H2");
    }

    private static void takenOutFirst() {
        after("&a<A", 18, "a:1 A:1 b:1");
        after("&b<a", 18, "-:1 A:1 b:1 B:3 a:1 c:1");
        after("&c=a=c1", 19, "-:1 A:1 b:1 B:3 c:1 a:4 c1:4 C:3 d:1");
        // The step that the one behind gets counts for where it is put in.
        after("&A<<<b", 18, "a:1 A:3 b:3 B:1 c:1");
        after("&a<<b", 18, "a:1 A:3 b:2 B:1 c:1");
        // The first anchor may be moved itself, when another one is the anchor.
        after("&a<b<a", 18, "-:1 A:1 b:1 a:1 B:1 c:1");
        // A string that comes twice is taken out again.
        after("&a<<a1<a2<a1", 20, "a:1 A:3 a2:1 a1:1 b:1");
    }

    private static void noStringTwice() {
        Driven x = new Driven().with("&a<ab<abc<ac", "&b<ab<abc<ac", "&c<<ac=ab<<<abc<ac", "&h<a<b<a<b<a");
        DUE.is("entries()", x.entries(), 21);
        Set<String> strings = new TreeSet<>();
        for (int i = 0; i < 21; i++) {
            strings.add(x.string(i));
        }
        DUE.is("different strings", strings.size(), 21);
    }

    private static void stringsOfRules() {
        after("&a<h1H=H24", 20, "A:3 h1H:1 H24:4 b:1");
        String letters = "abcdefghABCDEFGH";
        for (char c : (letters + "1234").toCharArray()) {
            after("&A<d" + c, 19, "A:3 d" + c + ":1 b:1");
            after("&A<dd" + c, 19, "A:3 dd" + c + ":1 b:1");
        }
        for (char c : letters.toCharArray()) {
            after("&A<" + c + "4", 19, "A:3 " + c + "4:1 b:1");
            Driven x = new Driven();
            DUE.is("&" + c + "=d4", x.rule("&" + c + "=d4"), 19);
            int i = " -aAbBcCdDeEfFgGhH".indexOf(c);
            DUE.is("behind " + c, x.string(i + 1), "d4");
        }
    }

    private static void variablesStay() {
        Driven x = new Driven().with("&h<a<b<c", "&H<<A=B<<<C", "&d=a");
        DUE.is("the first two", x.string(0) + x.string(1), " -");
        DUE.is("their steps", x.entry(0, 3) + " " + x.entry(1, 3), "1 1");
        DUE.is("entries()", x.entries(), 18);
    }

    private static void numberOfEntries() {
        Driven x = new Driven();
        DUE.is("one moved", x.rule("&a<b"), 18);
        DUE.is("one more", x.rule("&a<ab"), 19);
        DUE.is("one moved and one more", x.rule("&a<ab<ac"), 20);
        DUE.is("one more, twice", x.rule("&a<ad<b<ad"), 21);
        DUE.is("entries()", x.entries(), 21);
    }

    private static void longestRules() {
        Driven x = new Driven();
        DUE.is("24 characters", x.rule("&a<b<c<d<e<f<g<h<A<B<C<D"), 18);
        DUE.is("its table", x.table(),
            " :1 -:1 a:1 b:1 c:1 d:1 e:1 f:1 g:1 h:1 A:1 B:1 C:1 D:1 E:1 F:1 G:1 H:1");
        Driven y = new Driven();
        DUE.is("24 characters, long strings", y.rule("&a<abc<<abd<<<abe=abf<a1"), 23);
        holds(y, "a:1 A:3 abc:1 abd:2 abe:3 abf:4 a1:1 b:1");
        Driven z = new Driven();
        DUE.is("24 characters with a string of three at the end", z.rule("&a<<<b<<<c<<<d<<<e<<<fgh"), 19);
        holds(z, "a:1 b:3 c:3 d:3 e:3 fgh:3 A:3 B:1");
    }

    private static Driven with29() {
        Driven x = new Driven();
        DUE.is("seven more", x.rule("&a<aa<ab<ac<ad<ae<af<ag"), 25);
        DUE.is("four more", x.rule("&a<ba<bb<bc<bd"), 29);
        return x;
    }

    private static void thirtyEntries() {
        Driven x = with29();
        DUE.is("the 30th", x.rule("&a<ca"), 30);
        DUE.is("entries()", x.entries(), 30);
        DUE.is("the last one", x.string(29), "H");
        DUE.is("the one put in", x.string(4), "ca");
        DUE.is("no 31st", x.entry(30, 0), -2);
        Driven y = with29();
        DUE.is("the 30th at the end", y.rule("&H<<ha"), 30);
        DUE.is("the last one", y.string(29) + y.entry(29, 3), "ha2");
    }

    private static void thirtyOneEntries() {
        Driven x = with29();
        String table = x.table();
        DUE.is("two more than 29", x.rule("&a<ca<cb"), -102);
        DUE.is("entries()", x.entries(), 29);
        DUE.is("the table of 29", x.table(), table);
        Driven y = with29().with("&a<ca");
        table = y.table();
        DUE.is("one more than 30", y.rule("&a<cb"), -102);
        DUE.is("one more than 30 at the end", y.rule("&H=cb"), -102);
        DUE.is("one moved and one more than 30", y.rule("&a<b<cb"), -102);
        DUE.is("entries()", y.entries(), 30);
        DUE.is("the table of 30", y.table(), table);
    }

    private static void movedAmongThirty() {
        Driven x = with29().with("&a<ca");
        DUE.is("two moved among 30", x.rule("&aa<b=H"), 30);
        DUE.is("one moved to the end of 30", x.rule("&h<a"), 30);
        DUE.is("one moved behind the last of 30", x.rule("&a<b"), 30);
        DUE.is("the last one", x.string(29), "b");
        DUE.is("the last one moved", x.rule("&aa<b"), 30);
        DUE.is("the last one", x.string(29), "a");
        DUE.is("ten moved", x.rule("&c<d<e<f<g<h<A<B<C<D<E"), 30);
        Driven y = with29();
        DUE.is("one more, which is moved again", y.rule("&a<ca<b<ca<c<ca"), 30);
    }
}
