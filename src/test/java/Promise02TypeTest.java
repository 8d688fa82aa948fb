public final class Promise02TypeTest {
    private static final Due DUE = new Due("promise 2, type");
    private static final String CHARACTERS = "abcdefghABCDEFGH -1234";
    private static final int[] LIMITS = {12, 12, 24};

    public static void main(String[] args) {
        DUE.sentence("Line 0 and line 1 are texts of at most 12 characters", () -> {
            fullLine(0);
            fullLine(1);
        });
        DUE.sentence("line 2 takes rules, at most 24 characters", () -> fullLine(2));
        DUE.sentence("of any kind with codes 32 .. 126", Promise02TypeTest::codesOfRules);
        DUE.sentence("The character is put at the end of the line: true", Promise02TypeTest::putAtTheEnd);
        DUE.sentence("False, refused, when there is no such line", Promise02TypeTest::noSuchLine);
        DUE.sentence("False, refused, when it is full", Promise02TypeTest::refusedByAFullLine);
        DUE.sentence("False, refused, when in the lines 0 and 1 it is none of the characters above",
            Promise02TypeTest::charactersOfTexts);
        DUE.sentence("False, refused, when the character may not stand in line 2", Promise02TypeTest::refusedByRules);
        DUE.sentence("a full line is full for itself, and takes characters again when it was wiped",
            Promise02TypeTest::fullForItself);
        DUE.end();
    }

    private static void fullLine(int line) {
        Driven x = new Driven();
        for (int i = 1; i <= LIMITS[line]; i++) {
            DUE.is("character " + i + " of line " + line, x.type(line, 'a'), true);
        }
        DUE.is("one more in line " + line, x.type(line, 'a'), false);
        DUE.is("one more again", x.type(line, 'b'), false);
        DUE.is("what line " + line + " had", x.wipe(line), LIMITS[line]);
    }

    private static void codesOfRules() {
        for (int code = 0; code < 65536; code++) {
            Driven x = new Driven();
            boolean may = code >= 32 && code <= 126;
            DUE.is("type(2, " + code + ")", x.type(2, (char) code), may);
            DUE.is("wipe(2) behind " + code, x.wipe(2), may ? 1 : 0);
        }
    }

    private static void charactersOfTexts() {
        for (int code = 0; code < 65536; code++) {
            Driven x = new Driven();
            boolean may = CHARACTERS.indexOf((char) code) >= 0;
            for (int line = 0; line < 2; line++) {
                DUE.is("type(" + line + ", " + code + ")", x.type(line, (char) code), may);
                DUE.is("wipe(" + line + ") behind " + code, x.wipe(line), may ? 1 : 0);
            }
        }
    }

    private static void putAtTheEnd() {
        Driven x = new Driven();
        for (char c : "abC".toCharArray()) {
            DUE.is("type(0, " + c + ")", x.type(0, c), true);
        }
        DUE.is("type(1, C)", x.type(1, 'C'), true);
        DUE.is("type(2, &)", x.type(2, '&'), true);
        DUE.is("the key of abC", x.key(0), "3 4 5 0 1 1 1 0 1 1 2 0");
        DUE.is("the key of C", x.key(1), "5 0 1 0 2 0");
        DUE.is("the rest of a rule behind &", x.rule("a<ab"), 19);
        Driven y = new Driven();
        DUE.is("the key of a full line", y.keyOf("abcdefghABCD"),
            "3 4 5 6 7 8 9 10 3 4 5 6 0 1 1 1 1 1 1 1 1 1 1 1 1 0 1 1 1 1 1 1 1 1 2 2 2 2 0");
    }

    private static void noSuchLine() {
        Driven x = new Driven();
        for (int line : new int[] {-1, 3, -2, 4, 12, 24, Integer.MIN_VALUE, Integer.MAX_VALUE}) {
            DUE.is("type(" + line + ", a)", x.type(line, 'a'), false);
            DUE.is("type(" + line + ", &)", x.type(line, '&'), false);
        }
        for (int line = 0; line < 3; line++) {
            DUE.is("wipe(" + line + ")", x.wipe(line), 0);
        }
    }

    private static void refusedByAFullLine() {
        Driven x = new Driven();
        x.write(0, "aaaaaaaaaaab");
        x.write(1, "bbbbbbbbbbba");
        x.write(2, "&a<b<c<d<e<f<g<h<A<B<C<D");
        for (int line = 0; line < 3; line++) {
            DUE.is("type(" + line + ", h)", x.type(line, 'h'), false);
            DUE.is("type(" + line + ", z) into a full line", x.type(line, 'z'), false);
        }
        x.form(1, false, false);
        DUE.is("line 0 as it was", x.key(0), "3 3 3 3 3 3 3 3 3 3 3 4 0");
        DUE.is("line 1 as it was", x.key(1), "4 4 4 4 4 4 4 4 4 4 4 3 0");
        DUE.is("line 2 as it was", x.tailor(), 18);
    }

    private static void refusedByRules() {
        Driven x = new Driven();
        x.add(2, "&a<a");
        for (char c : new char[] {0, 9, 10, 31, 127, 128, 160, 255, 256 + '1', 65535}) {
            DUE.is("type(2, " + (int) c + ")", x.type(2, c), false);
        }
        DUE.is("line 2 as it was, with b behind", x.rule("b"), 19);
        Driven y = new Driven();
        y.write(0, "ab");
        for (char c : "i@I`05&<=_~".toCharArray()) {
            DUE.is("type(0, " + c + ")", y.type(0, c), false);
        }
        DUE.is("line 0 as it was", y.key(0), "3 4 0 1 1 0 1 1 0");
    }

    private static void fullForItself() {
        for (int full = 0; full < 3; full++) {
            Driven x = new Driven();
            x.write(full, "abcdefghABCDabcdefghABCD".substring(0, LIMITS[full]));
            for (int line = 0; line < 3; line++) {
                DUE.is("type(" + line + ", a), line " + full + " being full", x.type(line, 'a'), line != full);
            }
            x.wipe(full);
            for (int i = 1; i <= LIMITS[full] + 1; i++) {
                DUE.is("character " + i + " of the wiped line " + full, x.type(full, 'a'), i <= LIMITS[full]);
            }
        }
    }
}
