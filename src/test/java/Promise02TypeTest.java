public final class Promise02TypeTest {
    private static final String CHARACTERS = "abcdefghABCDEFGH -1234";

    public static void main(String[] args) {
        Due due = new Due("promise 2, type");
        everyCharacter(due);
        limits(due);
        noSuchLine(due);
        putAtTheEnd(due);
        due.end();
    }

    private static void everyCharacter(Due due) {
        for (int code = 0; code < 65536; code++) {
            TailoredOrder x = new TailoredOrder();
            char c = (char) code;
            boolean inText = CHARACTERS.indexOf(c) >= 0;
            boolean inRule = code >= 32 && code <= 126;
            due.is("type(0, " + code + ")", x.type(0, c), inText);
            due.is("type(1, " + code + ")", x.type(1, c), inText);
            due.is("type(2, " + code + ")", x.type(2, c), inRule);
            due.is("wipe(0) behind " + code, x.wipe(0), inText ? 1 : 0);
            due.is("wipe(1) behind " + code, x.wipe(1), inText ? 1 : 0);
            due.is("wipe(2) behind " + code, x.wipe(2), inRule ? 1 : 0);
        }
    }

    private static void limits(Due due) {
        int[] limits = {12, 12, 24};
        for (int line = 0; line < 3; line++) {
            TailoredOrder x = new TailoredOrder();
            for (int i = 1; i <= limits[line] + 2; i++) {
                due.is("type " + i + " into line " + line, x.type(line, 'a'), i <= limits[line]);
            }
            due.is("the full line " + line, x.wipe(line), limits[line]);
            due.is("a wiped line " + line, x.type(line, 'a'), true);
        }
    }

    private static void noSuchLine(Due due) {
        TailoredOrder x = new TailoredOrder();
        for (int line : new int[] {-1, 3, 4, Integer.MIN_VALUE, Integer.MAX_VALUE}) {
            due.is("type(" + line + ", a)", x.type(line, 'a'), false);
        }
        for (int line = 0; line < 3; line++) {
            due.is("wipe(" + line + ")", x.wipe(line), 0);
        }
    }

    private static void putAtTheEnd(Due due) {
        TailoredOrder x = new TailoredOrder();
        Due.write(x, 0, "abC");
        Due.write(x, 1, "C");
        due.is("a refused character", x.type(0, 'z'), false);
        due.is("the key of abC", Due.key(x, 0), "3 4 5 0 1 1 1 0 1 1 2 0");
        due.is("the key of C", Due.key(x, 1), "5 0 1 0 2 0");
    }
}
