import java.util.ArrayList;
import java.util.Comparator;
import java.util.List;
import java.util.regex.Matcher;
import java.util.regex.Pattern;

/** The document word by word, with texts and lists, as slow as it likes: what TailoredOrder is compared with. */
final class Model {
    private static final String LETTERS = "abcdefghABCDEFGH";
    private static final String VARIABLES = " -";
    private static final String MARKS = "1234";
    private static final String STRING = "[a-hA-H][a-hA-H1-4]{0,2}";
    private static final Pattern RULE = Pattern.compile("&" + STRING + "(?:(?:<{1,3}|=)" + STRING + ")+");
    private static final Pattern PART = Pattern.compile("(&|<{1,3}|=)([a-hA-H1-4]+)");

    private record Entry(String string, int step) { }

    private record Filed(int number, String text) { }

    private List<Entry> table = new ArrayList<>();
    private final String[] lines = {"", "", ""};
    private final List<Filed> file = new ArrayList<>();
    private int next = 0;
    private int strength = 3;
    private boolean shifted = false;
    private boolean backward = false;

    Model() {
        for (String s : " ,-,a,A,b,B,c,C,d,D,e,E,f,F,g,G,h,H".split(",")) {
            table.add(new Entry(s, Character.isUpperCase(s.charAt(0)) ? 3 : 1));
        }
    }

    boolean type(int line, char c) {
        if (line < 0 || line > 2 || lines[line].length() == (line == 2 ? 24 : 12)) {
            return false;
        }
        boolean may = line == 2 ? c >= 32 && c <= 126 : (LETTERS + VARIABLES + MARKS).indexOf(c) >= 0;
        lines[line] += may ? String.valueOf(c) : "";
        return may;
    }

    int wipe(int line) {
        if (line < 0 || line > 2) {
            return -1;
        }
        int had = lines[line].length();
        lines[line] = "";
        return had;
    }

    private static boolean beginsSomeRule(String s) {
        Matcher m = RULE.matcher(s);
        return m.matches() || m.hitEnd();
    }

    int tailor() {
        String line = lines[2];
        lines[2] = "";
        if (!RULE.matcher(line).matches()) {
            int p = 0;
            while (p < line.length() && beginsSomeRule(line.substring(0, p + 1))) {
                p++;
            }
            return -1 - p;
        }
        List<Entry> before = new ArrayList<>(table);
        int answer = follow(line);
        if (answer < 0) {
            table = before;
        }
        return answer;
    }

    private int follow(String line) {
        Matcher m = PART.matcher(line);
        m.find();
        String anchor = m.group(2);
        if (find(anchor) < 0) {
            return -100;
        }
        while (m.find()) {
            String string = m.group(2);
            int step = m.group(1).equals("=") ? 4 : m.group(1).length();
            if (string.equals(anchor)) {
                return -101;
            }
            if (find(string) >= 0) {
                takeOut(find(string));
            }
            if (table.size() + 1 == 31) {
                return -102;
            }
            int place = find(anchor) + 1;
            while (place < table.size() && table.get(place).step() > step) {
                place++;
            }
            table.add(place, new Entry(string, step));
            anchor = string;
        }
        return table.size();
    }

    private void takeOut(int i) {
        Entry out = table.remove(i);
        if (i < table.size()) {
            Entry behind = table.get(i);
            table.set(i, new Entry(behind.string(), Math.min(out.step(), behind.step())));
        }
    }

    private int find(String string) {
        for (int i = 0; i < table.size(); i++) {
            if (table.get(i).string().equals(string)) {
                return i;
            }
        }
        return -1;
    }

    int entries() {
        return table.size();
    }

    int entry(int i, int what) {
        if (i < 0 || i >= table.size() || what < 0 || what > 6) {
            return -2;
        }
        String string = table.get(i).string();
        if (what < 3) {
            return what < string.length() ? string.charAt(what) : -1;
        }
        return what == 3 ? table.get(i).step() : weight(i, what - 3);
    }

    private int weight(int i, int level) {
        int behind = 0;
        for (int k = 0; k <= i; k++) {
            if (table.get(k).step() < level) {
                behind = k + 1;
            }
        }
        int many = level == 1 ? 0 : 1;
        for (int k = behind; k <= i; k++) {
            many += table.get(k).step() == level ? 1 : 0;
        }
        return many;
    }

    boolean form(int newStrength, boolean newShifted, boolean newBackward) {
        if (newStrength < 1 || newStrength > 4) {
            return false;
        }
        strength = newStrength;
        shifted = newShifted;
        backward = newBackward;
        return true;
    }

    private static boolean isMark(char c) {
        return MARKS.indexOf(c) >= 0;
    }

    private static int classOf(char mark) {
        return mark == '1' || mark == '2' ? 1 : 2;
    }

    private static String arrange(String text) {
        StringBuilder row = new StringBuilder();
        for (int i = 0; i < text.length(); ) {
            if (!isMark(text.charAt(i))) {
                row.append(text.charAt(i));
                i++;
                continue;
            }
            String first = "";
            String second = "";
            for (; i < text.length() && isMark(text.charAt(i)); i++) {
                if (classOf(text.charAt(i)) == 1) {
                    first += text.charAt(i);
                } else {
                    second += text.charAt(i);
                }
            }
            row.append(first).append(second);
        }
        return row.toString();
    }

    /** The strings of the elements, a mark being one as well. */
    private List<String> elements(String text) {
        List<String> found = new ArrayList<>();
        String rest = arrange(text);
        while (!rest.isEmpty()) {
            if (isMark(rest.charAt(0))) {
                found.add(rest.substring(0, 1));
                rest = rest.substring(1);
                continue;
            }
            String taken = "";
            for (Entry e : table) {
                taken = rest.startsWith(e.string()) && e.string().length() > taken.length() ? e.string() : taken;
            }
            rest = rest.substring(taken.length());
            String passed = "";
            while (!rest.isEmpty() && isMark(rest.charAt(0))) {
                char mark = rest.charAt(0);
                boolean blocked = passed.chars().anyMatch(c -> classOf((char) c) == classOf(mark));
                if (!blocked && find(taken + mark) >= 0) {
                    taken += mark;
                } else {
                    passed += mark;
                }
                rest = rest.substring(1);
            }
            found.add(taken);
            rest = passed + rest;
        }
        return found;
    }

    private List<int[]> weights(String text) {
        List<int[]> rows = new ArrayList<>();
        String lastEntry = "";
        for (String element : elements(text)) {
            boolean behindVariable = !lastEntry.isEmpty() && VARIABLES.contains(lastEntry);
            if (isMark(element.charAt(0))) {
                int d = element.charAt(0) - '0';
                rows.add(shifted && behindVariable ? new int[4] : new int[] {0, 100 + d, 1, 0});
                continue;
            }
            lastEntry = element;
            int i = find(element);
            if (shifted && VARIABLES.contains(element)) {
                rows.add(new int[] {0, 0, 0, weight(i, 1)});
            } else {
                rows.add(new int[] {weight(i, 1), weight(i, 2), weight(i, 3), shifted ? 1000 : 0});
            }
        }
        return rows;
    }

    private List<Integer> key(String text) {
        List<Integer> key = new ArrayList<>();
        for (int level = 1; level <= strength; level++) {
            List<Integer> part = new ArrayList<>();
            for (int[] row : weights(text)) {
                if (row[level - 1] != 0) {
                    part.add(level == 2 && backward ? 0 : part.size(), row[level - 1]);
                }
            }
            key.addAll(part);
            key.add(0);
        }
        return key;
    }

    private int against(String left, String right) {
        List<Integer> a = key(left);
        List<Integer> b = key(right);
        int i = 0;
        while (i < a.size() && i < b.size() && a.get(i).equals(b.get(i))) {
            i++;
        }
        if (i == a.size() && i == b.size()) {
            return 0;
        }
        return a.get(i) < b.get(i) ? -1 : 1;
    }

    int keyLength(int line) {
        return line == 0 || line == 1 ? key(lines[line]).size() : -1;
    }

    int keyAt(int line, int i) {
        return i < 0 || i >= keyLength(line) ? -1 : key(lines[line]).get(i);
    }

    int compare() {
        return against(lines[0], lines[1]);
    }

    int file(int line) {
        if (line != 0 && line != 1 || file.size() == 10) {
            return -1;
        }
        file.add(new Filed(next, lines[line]));
        return next++;
    }

    boolean unfile(int number) {
        return file.removeIf(f -> f.number() == number);
    }

    int filed() {
        return file.size();
    }

    int inOrder(int i) {
        List<Filed> sorted = new ArrayList<>(file);
        sorted.sort(Comparator.comparing(Filed::text, this::against).thenComparing(Filed::number));
        return i < 0 || i >= sorted.size() ? -1 : sorted.get(i).number();
    }

    int below(int line) {
        if (line != 0 && line != 1) {
            return -1;
        }
        int less = 0;
        for (Filed f : file) {
            less += against(f.text(), lines[line]) < 0 ? 1 : 0;
        }
        return less;
    }
}
