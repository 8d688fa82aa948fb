/**
 * Counts the answers of one test that are not as due, and drives an object with whole texts.
 * What an object answers behind its 512th call is free, so the helpers are sparing with calls.
 */
final class Due {
    private final String test;
    private int asked = 0;
    private int wrong = 0;

    Due(String test) {
        this.test = test;
    }

    void is(String call, Object got, Object want) {
        asked++;
        if (!got.equals(want)) {
            wrong++;
            System.out.println(test + ": " + call + " answered " + got + ", due is " + want);
        }
    }

    void end() {
        System.out.println(test + ": " + asked + " answers, " + wrong + " not as due");
        if (wrong != 0 || asked == 0) {
            System.exit(1);
        }
    }

    static void write(TailoredOrder x, int line, String text) {
        x.wipe(line);
        for (char c : text.toCharArray()) {
            if (!x.type(line, c)) {
                throw new IllegalStateException("line " + line + " does not take " + text);
            }
        }
    }

    static int rule(TailoredOrder x, String rule) {
        write(x, 2, rule);
        return x.tailor();
    }

    static int compare(TailoredOrder x, String left, String right) {
        write(x, 0, left);
        write(x, 1, right);
        return x.compare();
    }

    static int file(TailoredOrder x, String text) {
        write(x, 0, text);
        return x.file(0);
    }

    static String keyOf(TailoredOrder x, String text) {
        write(x, 0, text);
        return key(x, 0);
    }

    static String key(TailoredOrder x, int line) {
        StringBuilder row = new StringBuilder();
        int length = x.keyLength(line);
        for (int i = 0; i < length; i++) {
            row.append(i == 0 ? "" : " ").append(x.keyAt(line, i));
        }
        return row.toString();
    }

    /** Strings with their steps behind a colon, parted by spaces. */
    static String table(TailoredOrder x) {
        StringBuilder row = new StringBuilder();
        int entries = x.entries();
        for (int i = 0; i < entries; i++) {
            row.append(i == 0 ? "" : " ").append(string(x, i)).append(':').append(x.entry(i, 3));
        }
        return row.toString();
    }

    static String string(TailoredOrder x, int i) {
        StringBuilder string = new StringBuilder();
        for (int what = 0; what < 3; what++) {
            int c = x.entry(i, what);
            if (c < 0) {
                break;
            }
            string.append((char) c);
        }
        return string.toString();
    }

    static String weights(TailoredOrder x, int i) {
        return x.entry(i, 4) + " " + x.entry(i, 5) + " " + x.entry(i, 6);
    }

    static String order(TailoredOrder x) {
        StringBuilder row = new StringBuilder();
        int filed = x.filed();
        for (int i = 0; i < filed; i++) {
            row.append(i == 0 ? "" : " ").append(x.inOrder(i));
        }
        return row.toString();
    }

    static final String FIRST_TABLE =
        " :1 -:1 a:1 A:3 b:1 B:3 c:1 C:3 d:1 D:3 e:1 E:3 f:1 F:3 g:1 G:3 h:1 H:3";
}
