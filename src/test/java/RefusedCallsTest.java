import java.util.function.Consumer;
import java.util.function.Supplier;

/** Two objects with the same calls, one of which has a refused call more: all that can be asked is the same. */
public final class RefusedCallsTest {
    private static final Due DUE = new Due("A call that is refused changes nothing but where it is said");
    private static final int[] NO_LINES = {-1, 3, Integer.MIN_VALUE, Integer.MAX_VALUE};
    private static final int[] NO_TEXTS = {-1, 2, 3, Integer.MIN_VALUE, Integer.MAX_VALUE};

    public static void main(String[] args) {
        DUE.sentence("type: no such line", () -> each(NO_LINES, (x, line) -> x.type(line, 'a')));
        DUE.sentence("type: a full line", RefusedCallsTest::fullLines);
        DUE.sentence("type: a character that may not stand in it", RefusedCallsTest::characters);
        DUE.sentence("wipe: no such line", () -> each(NO_LINES, (x, line) -> x.wipe(line)));
        DUE.sentence("tailor: no rule, but line 2 is empty", () -> tailor("&a<b<c!", "&a<b<"));
        DUE.sentence("tailor: -100, but line 2 is empty", () -> tailor("&ab<c", "&b2<a<b<c"));
        DUE.sentence("tailor: -101, but line 2 is empty", () -> tailor("&a<a", "&a1<b<<c<<<d=e2=e2"));
        DUE.sentence("tailor: -102, but line 2 is empty", RefusedCallsTest::fullTable);
        DUE.sentence("entry: no such entry or what", RefusedCallsTest::entry);
        DUE.sentence("form: no such strength", () -> each(new int[] {0, 5, -1, Integer.MIN_VALUE, Integer.MAX_VALUE},
            (x, strength) -> x.form(strength, false, false)));
        DUE.sentence("keyLength: another line", () -> each(NO_TEXTS, (x, line) -> x.keyLength(line)));
        DUE.sentence("keyAt: another line, or no such number", RefusedCallsTest::keyAt);
        DUE.sentence("file: another line", () -> each(NO_TEXTS, (x, line) -> x.file(line)));
        DUE.sentence("file: ten texts", RefusedCallsTest::fullFile);
        DUE.sentence("unfile: a number that is not there", () -> each(new int[] {1, 4, -1, 9, Integer.MIN_VALUE,
            Integer.MAX_VALUE}, (x, number) -> x.unfile(number)));
        DUE.sentence("inOrder: no such place", () -> each(new int[] {3, -1, 10, Integer.MIN_VALUE, Integer.MAX_VALUE},
            (x, i) -> x.inOrder(i)));
        DUE.sentence("below: another line", () -> each(NO_TEXTS, (x, line) -> x.below(line)));
        DUE.sentence("questions that are answered change nothing as well", RefusedCallsTest::questions);
        DUE.end();
    }

    private interface Call {
        void on(Driven x, int argument);
    }

    /** Every part of the state is other than that of a new object; the numbers 0, 2 and 3 are filed. */
    private static Driven used() {
        Driven x = new Driven().with("&a<<a1=a2<b<<<bc");
        x.form(4, true, true);
        for (String text : new String[] {"b", "bc", "a1-2", "Ab"}) {
            x.file(text);
        }
        x.unfile(1);
        x.add(2, "&a<b");
        x.write(0, "a1B-2h");
        x.write(1, "2bc1 a");
        return x;
    }

    private static void unchanged(Supplier<Driven> made, String call, Consumer<Driven> calls) {
        Driven x = made.get();
        calls.accept(x);
        DUE.is("all behind " + call, x.all(), made.get().all());
    }

    private static void each(int[] arguments, Call call) {
        for (int argument : arguments) {
            unchanged(RefusedCallsTest::used, "argument " + argument, x -> call.on(x, argument));
        }
    }

    private static Driven withFullLines() {
        Driven x = new Driven();
        x.write(0, "abcdefghABCD");
        x.write(1, "hgfedcbaDCBA");
        x.write(2, "&a<b<c<d<e<f<g<h<A<B<C<D");
        return x;
    }

    private static void fullLines() {
        for (int line = 0; line < 3; line++) {
            int full = line;
            unchanged(RefusedCallsTest::withFullLines, "type(" + line + ", h)", x -> x.type(full, 'h'));
        }
    }

    private static void characters() {
        for (char c : new char[] {'i', '0', '5', '&', '@', 0, 127, 255, 256 + 'a', 65535}) {
            unchanged(RefusedCallsTest::used, "type(0, " + (int) c + ")", x -> x.type(0, c));
            unchanged(RefusedCallsTest::used, "type(1, " + (int) c + ")", x -> x.type(1, c));
        }
        for (char c : new char[] {0, 31, 127, 255, 256 + 'a', 65535}) {
            unchanged(RefusedCallsTest::used, "type(2, " + (int) c + ")", x -> x.type(2, c));
        }
    }

    private static Driven usedWithoutRule() {
        Driven x = used();
        x.wipe(2);
        return x;
    }

    private static void tailor(String... rules) {
        for (String rule : rules) {
            unchanged(RefusedCallsTest::usedWithoutRule, "tailor() of " + rule, x -> {
                DUE.is(rule + " is refused", x.rule(rule) < 0, true);
            });
        }
    }

    private static Driven withFullTable() {
        Driven x = new Driven().with("&a<aa<ab<ac<ad<ae<af<ag", "&a<ba<bb<bc<bd<be");
        x.add(0, "aabeh");
        x.add(1, "ac-ab");
        x.file(0);
        x.file(1);
        return x;
    }

    private static void fullTable() {
        for (String rule : new String[] {"&a<ca", "&h<a<b<<H=ab<ca", "&H=a<ca<a"}) {
            Driven x = withFullTable();
            DUE.is("tailor() of " + rule, x.rule(rule), -102);
            Driven y = withFullTable();
            DUE.is("the table", x.table(), y.table());
            for (int i = 0; i < 30; i++) {
                DUE.is("the weights of entry " + i, x.weights(i), y.weights(i));
            }
            DUE.is("the key", x.key(0), y.key(0));
            DUE.is("the order", x.order(), y.order());
            DUE.is("the lines", x.wipe(0) + " " + x.wipe(1) + " " + x.wipe(2), "5 5 0");
        }
    }

    private static void entry() {
        each(new int[] {-1, 21, 22, 30, Integer.MIN_VALUE, Integer.MAX_VALUE}, (x, i) -> x.entry(i, 3));
        each(new int[] {-1, 7, Integer.MIN_VALUE, Integer.MAX_VALUE}, (x, what) -> x.entry(2, what));
    }

    private static void keyAt() {
        each(NO_TEXTS, (x, line) -> x.keyAt(line, 0));
        each(new int[] {-1, 52, 53, Integer.MIN_VALUE, Integer.MAX_VALUE}, (x, i) -> x.keyAt(0, i));
    }

    private static Driven withFullFile() {
        Driven x = new Driven();
        x.write(1, "ab");
        for (int number = 0; number < 10; number++) {
            x.file(1);
        }
        x.write(0, "a");
        return x;
    }

    private static void fullFile() {
        unchanged(RefusedCallsTest::withFullFile, "file(0)", x -> x.file(0));
        unchanged(RefusedCallsTest::withFullFile, "file(1)", x -> x.file(1));
        Driven x = withFullFile();
        x.file(0);
        x.unfile(3);
        DUE.is("the next number behind a refusal", x.file(0), 10);
        DUE.is("the order", x.order(), "10 0 1 2 4 5 6 7 8 9");
    }

    private static void questions() {
        unchanged(RefusedCallsTest::used, "questions", x -> {
            x.entries();
            x.entry(4, 6);
            x.keyLength(0);
            x.keyAt(1, 2);
            x.compare();
            x.filed();
            x.inOrder(1);
            x.below(0);
            x.below(1);
        });
    }
}
