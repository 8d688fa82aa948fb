/** A new object, driven by its own calls and by whole texts, for the 512 calls whose answers are not free. */
final class Driven {
    static final int CALLS = 512;
    static final String FIRST_TABLE =
        " :1 -:1 a:1 A:3 b:1 B:3 c:1 C:3 d:1 D:3 e:1 E:3 f:1 F:3 g:1 G:3 h:1 H:3";

    private final TailoredOrder order = new TailoredOrder();
    private int calls = 0;

    private TailoredOrder called() {
        calls++;
        if (calls > CALLS) {
            throw new IllegalStateException("a test asks what is free");
        }
        return order;
    }

    int calls() {
        return calls;
    }

    boolean type(int line, char c) {
        return called().type(line, c);
    }

    int wipe(int line) {
        return called().wipe(line);
    }

    int tailor() {
        return called().tailor();
    }

    int entries() {
        return called().entries();
    }

    int entry(int i, int what) {
        return called().entry(i, what);
    }

    boolean form(int strength, boolean shifted, boolean backward) {
        return called().form(strength, shifted, backward);
    }

    int keyLength(int line) {
        return called().keyLength(line);
    }

    int keyAt(int line, int i) {
        return called().keyAt(line, i);
    }

    int compare() {
        return called().compare();
    }

    int file(int line) {
        return called().file(line);
    }

    boolean unfile(int number) {
        return called().unfile(number);
    }

    int filed() {
        return called().filed();
    }

    int inOrder(int i) {
        return called().inOrder(i);
    }

    int below(int line) {
        return called().below(line);
    }

    /** Behind what the line has already. */
    void add(int line, String text) {
        for (char c : text.toCharArray()) {
            if (!type(line, c)) {
                throw new IllegalStateException("line " + line + " does not take " + c + " of " + text);
            }
        }
    }

    void write(int line, String text) {
        wipe(line);
        add(line, text);
    }

    int rule(String rule) {
        add(2, rule);
        return tailor();
    }

    /** The rules, every one of which must be done. */
    Driven with(String... rules) {
        for (String rule : rules) {
            if (rule(rule) < 0) {
                throw new IllegalStateException("not done: " + rule);
            }
        }
        return this;
    }

    int compare(String left, String right) {
        write(0, left);
        write(1, right);
        return compare();
    }

    int file(String text) {
        write(0, text);
        return file(0);
    }

    String keyOf(String text) {
        write(0, text);
        return key(0);
    }

    String key(int line) {
        StringBuilder row = new StringBuilder();
        int length = keyLength(line);
        for (int i = 0; i < length; i++) {
            row.append(i == 0 ? "" : " ").append(keyAt(line, i));
        }
        return row.toString();
    }

    /** Strings with their steps behind a colon, parted by spaces. */
    String table() {
        StringBuilder row = new StringBuilder();
        int entries = entries();
        for (int i = 0; i < entries; i++) {
            row.append(i == 0 ? "" : " ").append(string(i)).append(':').append(entry(i, 3));
        }
        return row.toString();
    }

    String string(int i) {
        StringBuilder string = new StringBuilder();
        for (int what = 0; what < 3; what++) {
            int c = entry(i, what);
            if (c < 0) {
                break;
            }
            string.append((char) c);
        }
        return string.toString();
    }

    String weights(int i) {
        return entry(i, 4) + " " + entry(i, 5) + " " + entry(i, 6);
    }

    String order() {
        StringBuilder row = new StringBuilder();
        int filed = filed();
        for (int i = 0; i < filed; i++) {
            row.append(i == 0 ? "" : " ").append(inOrder(i));
        }
        return row.toString();
    }

    /** All that can be asked; it is the last that is asked, since the lines and the file do not stay as they are. */
    String all() {
        StringBuilder row = new StringBuilder(table());
        int entries = entries();
        for (int i = 0; i < entries; i++) {
            row.append(" | ").append(weights(i));
        }
        row.append(" | keys ").append(key(0)).append(" | ").append(key(1)).append(" | ").append(compare());
        row.append(" | order ").append(order()).append(" | ").append(below(0)).append(' ').append(below(1));
        row.append(" | numbers ").append(file(1)).append(' ').append(file(0));
        row.append(" | rule ").append(tailor()).append(' ').append(entries());
        for (int line = 0; line < 3; line++) {
            row.append(" | line ").append(line).append(' ').append(wipe(line));
        }
        return row.toString();
    }
}
