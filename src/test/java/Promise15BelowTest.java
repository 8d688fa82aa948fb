public final class Promise15BelowTest {
    private static final Due DUE = new Due("promise 15, below");

    public static void main(String[] args) {
        TailoredOrder x = new TailoredOrder();
        DUE.is("below(0) of nothing", x.below(0), 0);
        DUE.is("below(1) of nothing", x.below(1), 0);
        for (String text : new String[] {"b", "a", "B", "a", "-", "c1"}) {
            Due.file(x, text);
        }
        for (int line : new int[] {-1, 2, 3, Integer.MIN_VALUE, Integer.MAX_VALUE}) {
            DUE.is("below(" + line + ")", x.below(line), -1);
        }
        below(x, "", 0);
        below(x, "-", 0);
        below(x, "a", 1);
        below(x, "A", 3);
        below(x, "b", 3);
        below(x, "B", 4);
        below(x, "c", 5);
        below(x, "c1", 5);
        below(x, "c2", 6);
        Due.write(x, 0, "h");
        Due.write(x, 1, "a");
        DUE.is("below(0) of h", x.below(0), 6);
        DUE.is("below(1) of a", x.below(1), 1);
        x.form(1, false, false);
        below(x, "B", 3);
        below(x, "c", 5);
        x.form(3, true, false);
        below(x, "", 0);
        below(x, "a", 1);
        x.form(3, false, false);
        Due.rule(x, "&c<b");
        below(x, "b", 5);
        below(x, "B", 3);
        x.unfile(1);
        below(x, "b", 4);
        DUE.end();
    }

    private static void below(TailoredOrder x, String text, int want) {
        Due.write(x, 0, text);
        DUE.is("below(0) of '" + text + "'", x.below(0), want);
        Due.write(x, 1, text);
        x.wipe(0);
        DUE.is("below(1) of '" + text + "'", x.below(1), want);
    }
}
