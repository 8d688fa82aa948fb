/**
 * Puts texts in order by a table of strings with weights at three levels,
 * which can be tailored by rules.
 */
public final class TailoredOrder {
    private static final int LINES = 3;
    private static final int TEXT_LINES = 2;
    private static final int RULE_LINE = 2;
    private static final int TEXT_LIMIT = 12;
    private static final int RULE_LIMIT = 24;
    private static final int ENTRY_LIMIT = 30;
    private static final int FILE_LIMIT = 10;
    private static final int STRING_LIMIT = 3;
    private static final int LEVELS = 4;

    private static final int NO_ENTRY = -1;
    private static final int DONE = 0;
    private static final int REFUSED_FIRST_STRING = -100;
    private static final int REFUSED_ANCHOR = -101;
    private static final int REFUSED_COUNT = -102;

    private final Line[] lines;
    private final Key[] lineKeys;
    private final Table table;
    private final Table trial;
    private final Rule rule;
    private final KeyMaker maker;
    private final Folder folder;

    public TailoredOrder() {
        lines = new Line[LINES];
        lineKeys = new Key[TEXT_LINES];
        for (int i = 0; i < TEXT_LINES; i++) {
            lines[i] = new Line(TEXT_LIMIT);
            lineKeys[i] = new Key();
        }
        lines[RULE_LINE] = new Line(RULE_LIMIT);
        table = new Table();
        trial = new Table();
        rule = new Rule();
        maker = new KeyMaker(table);
        folder = new Folder();
    }

    public boolean type(int line, char c) {
        if (line < 0 || line >= LINES) {
            return false;
        }
        boolean fits = line == RULE_LINE ? c >= 32 && c <= 126 : isLetter(c) || isVariable(c) || isMark(c);
        return fits && lines[line].append(c);
    }

    public int wipe(int line) {
        return line < 0 || line >= LINES ? -1 : lines[line].clear();
    }

    public int tailor() {
        int fault = rule.read(lines[RULE_LINE]);
        lines[RULE_LINE].clear();
        if (fault < 0) {
            return fault;
        }
        // Done on a copy, because a refusal in the middle must leave nothing behind.
        trial.copyFrom(table);
        int answer = trial.follow(rule);
        if (answer >= 0) {
            table.copyFrom(trial);
        }
        return answer;
    }

    public int entries() {
        return table.count;
    }

    public int entry(int i, int what) {
        if (i < 0 || i >= table.count) {
            return -2;
        }
        switch (what) {
            case 0:
            case 1:
            case 2:
                int c = characterOf(table.strings[i], what);
                return c == 0 ? -1 : c;
            case 3:
                return table.steps[i];
            case 4:
                return table.primaries[i];
            case 5:
                return table.secondaries[i];
            case 6:
                return table.tertiaries[i];
            default:
                return -2;
        }
    }

    public boolean form(int strength, boolean shifted, boolean backward) {
        if (strength < 1 || strength > LEVELS) {
            return false;
        }
        maker.shape(strength, shifted, backward);
        return true;
    }

    public int keyLength(int line) {
        return isTextLine(line) ? keyOf(line).length : -1;
    }

    public int keyAt(int line, int i) {
        if (!isTextLine(line)) {
            return -1;
        }
        Key key = keyOf(line);
        return i < 0 || i >= key.length ? -1 : key.numbers[i];
    }

    public int compare() {
        return keyOf(0).against(keyOf(1));
    }

    public int file(int line) {
        return isTextLine(line) ? folder.add(lines[line]) : -1;
    }

    public boolean unfile(int number) {
        return folder.remove(number);
    }

    public int filed() {
        return folder.count;
    }

    public int inOrder(int i) {
        makeFolderKeys();
        return folder.numberAt(i);
    }

    public int below(int line) {
        if (!isTextLine(line)) {
            return -1;
        }
        makeFolderKeys();
        return folder.countLess(keyOf(line));
    }

    private static boolean isTextLine(int line) {
        return line >= 0 && line < TEXT_LINES;
    }

    private Key keyOf(int line) {
        maker.make(lines[line], lineKeys[line]);
        return lineKeys[line];
    }

    // Made anew each time, because the table and the forms may have changed since.
    private void makeFolderKeys() {
        for (int i = 0; i < folder.count; i++) {
            maker.make(folder.texts[i], folder.keys[i]);
        }
    }

    private static boolean isLetter(int c) {
        return (c >= 'a' && c <= 'h') || (c >= 'A' && c <= 'H');
    }

    private static boolean isVariable(int c) {
        return c == ' ' || c == '-';
    }

    private static boolean isMark(int c) {
        return c >= '1' && c <= '4';
    }

    private static int classOf(int mark) {
        return mark <= '2' ? 1 : 2;
    }

    // A string of up to three characters is held in one int, the first character in the lowest byte,
    // so that finding and comparing strings makes no objects.

    private static int characterOf(int string, int k) {
        return (string >> (8 * k)) & 255;
    }

    private static int lengthOf(int string) {
        return string < (1 << 8) ? 1 : string < (1 << 16) ? 2 : STRING_LIMIT;
    }

    private static int joined(int string, int length, int c) {
        return string | (c << (8 * length));
    }

    private static int firstOf(int string, int count) {
        return string & ((1 << (8 * count)) - 1);
    }

    /** A row of characters with a limit. */
    private static final class Line {
        final char[] chars;
        int length;

        Line(int limit) {
            chars = new char[limit];
            length = 0;
        }

        boolean append(char c) {
            if (length >= chars.length) {
                return false;
            }
            chars[length] = c;
            length++;
            return true;
        }

        int clear() {
            int had = length;
            length = 0;
            return had;
        }

        void copyFrom(Line other) {
            clear();
            for (int i = 0; i < other.length; i++) {
                append(other.chars[i]);
            }
        }
    }

    /** Reads a rule: its strings, the first anchor in front, each with the step of the sign before it. */
    private static final class Rule {
        private static final int AT_START = 0;
        private static final int BEHIND_SIGN = 1;
        private static final int IN_STRING = 2;

        final int[] strings;
        final int[] steps;
        int count;
        private int state;
        private int step;

        Rule() {
            // A string begins with a character of its own, so there are never more strings than characters.
            strings = new int[RULE_LIMIT];
            steps = new int[RULE_LIMIT];
        }

        /** The number of strings, or -1 - p when the line is no rule. */
        int read(Line line) {
            count = 0;
            state = AT_START;
            step = 0;
            for (int i = 0; i < line.length; i++) {
                if (!takes(line.chars[i])) {
                    return -1 - i;
                }
            }
            return state == IN_STRING && count > 1 ? count : -1 - line.length;
        }

        private boolean takes(char c) {
            switch (state) {
                case AT_START:
                    return c == '&' && sign(0);
                case BEHIND_SIGN:
                    // Behind & (step 0) and = (step 4) no < may follow.
                    return c == '<' && (step == 1 || step == 2) ? sign(step + 1) : isLetter(c) && begin(c);
                default:
                    return c == '<' ? sign(1) : c == '=' ? sign(4) : goOn(c);
            }
        }

        private boolean sign(int newStep) {
            state = BEHIND_SIGN;
            step = newStep;
            return true;
        }

        private boolean begin(char c) {
            if (count >= RULE_LIMIT) {
                return false;
            }
            strings[count] = c;
            steps[count] = step;
            count++;
            state = IN_STRING;
            return true;
        }

        private boolean goOn(char c) {
            int last = count - 1;
            boolean fits = isLetter(c) || isMark(c);
            if (!fits || last < 0) {
                return false;
            }
            int length = lengthOf(strings[last]);
            if (length >= STRING_LIMIT) {
                return false;
            }
            strings[last] = joined(strings[last], length, c);
            return true;
        }
    }

    /** The entries in their order, with the weights that follow from their steps. */
    private static final class Table {
        final int[] strings;
        final int[] steps;
        final int[] primaries;
        final int[] secondaries;
        final int[] tertiaries;
        int count;

        Table() {
            strings = new int[ENTRY_LIMIT];
            steps = new int[ENTRY_LIMIT];
            primaries = new int[ENTRY_LIMIT];
            secondaries = new int[ENTRY_LIMIT];
            tertiaries = new int[ENTRY_LIMIT];
            insert(0, ' ', 1);
            insert(1, '-', 1);
            for (int k = 0; k < 8; k++) {
                insert(2 + 2 * k, 'a' + k, 1);
                insert(3 + 2 * k, 'A' + k, 3);
            }
            weigh();
        }

        void copyFrom(Table other) {
            count = other.count;
            System.arraycopy(other.strings, 0, strings, 0, ENTRY_LIMIT);
            System.arraycopy(other.steps, 0, steps, 0, ENTRY_LIMIT);
            weigh();
        }

        int find(int string) {
            for (int i = 0; i < count; i++) {
                if (strings[i] == string) {
                    return i;
                }
            }
            return NO_ENTRY;
        }

        /** The entry with the longest string with which the head begins. */
        int findLongest(int head) {
            int best = 0;
            int bestLength = 0;
            for (int i = 0; i < count; i++) {
                int length = lengthOf(strings[i]);
                if (length > bestLength && firstOf(head, length) == strings[i]) {
                    best = i;
                    bestLength = length;
                }
            }
            return best;
        }

        /** The number of entries afterwards, or a refusal, which leaves the table half done. */
        int follow(Rule rule) {
            if (find(rule.strings[0]) == NO_ENTRY) {
                return REFUSED_FIRST_STRING;
            }
            for (int i = 1; i < rule.count; i++) {
                int outcome = move(rule.strings[i], rule.strings[i - 1], rule.steps[i]);
                if (outcome != DONE) {
                    return outcome;
                }
            }
            return count;
        }

        private int move(int string, int anchor, int step) {
            if (string == anchor) {
                return REFUSED_ANCHOR;
            }
            int old = find(string);
            if (old != NO_ENTRY) {
                takeOut(old);
            }
            if (count >= ENTRY_LIMIT) {
                return REFUSED_COUNT;
            }
            putIn(string, step, find(anchor));
            return DONE;
        }

        private void takeOut(int at) {
            if (at + 1 < count) {
                steps[at + 1] = Math.min(steps[at], steps[at + 1]);
            }
            for (int i = at + 1; i < count; i++) {
                strings[i - 1] = strings[i];
                steps[i - 1] = steps[i];
            }
            count--;
        }

        private void putIn(int string, int step, int anchor) {
            int place = anchor + 1;
            while (place < count && steps[place] > step) {
                place++;
            }
            insert(place, string, step);
        }

        private void insert(int place, int string, int step) {
            for (int i = count; i > place; i--) {
                strings[i] = strings[i - 1];
                steps[i] = steps[i - 1];
            }
            strings[place] = string;
            steps[place] = step;
            count++;
        }

        private void weigh() {
            int primary = 0;
            int secondary = 1;
            int tertiary = 1;
            for (int i = 0; i < count; i++) {
                if (steps[i] == 1) {
                    primary++;
                    secondary = 1;
                    tertiary = 1;
                } else if (steps[i] == 2) {
                    secondary++;
                    tertiary = 1;
                } else if (steps[i] == 3) {
                    tertiary++;
                }
                primaries[i] = primary;
                secondaries[i] = secondary;
                tertiaries[i] = tertiary;
            }
        }
    }

    /** A row of numbers by which texts are compared. */
    private static final class Key {
        final int[] numbers;
        int length;

        Key() {
            // On each level one number for each element, and the 0 behind them.
            numbers = new int[LEVELS * (TEXT_LIMIT + 1)];
            length = 0;
        }

        void add(int number) {
            if (length < numbers.length) {
                numbers[length] = number;
                length++;
            }
        }

        /** -1, 0 or 1. A key is never the beginning of a longer one, as both have equally many zeros. */
        int against(Key other) {
            int both = Math.min(length, other.length);
            for (int i = 0; i < both; i++) {
                if (numbers[i] != other.numbers[i]) {
                    return numbers[i] < other.numbers[i] ? -1 : 1;
                }
            }
            return 0;
        }
    }

    /** Finds the elements of a text and makes its key, in the form that is set. */
    private static final class KeyMaker {
        private static final int FOURTH = 1000;

        private final Table table;
        private final char[] text;
        private final char[] passed;
        private final int[][] weights;
        private int length;
        private int elements;
        private boolean behindVariable;
        private int strength;
        private boolean shifted;
        private boolean backward;

        KeyMaker(Table table) {
            this.table = table;
            text = new char[TEXT_LIMIT];
            passed = new char[TEXT_LIMIT];
            weights = new int[LEVELS][TEXT_LIMIT];
            strength = 3;
            shifted = false;
            backward = false;
        }

        void shape(int newStrength, boolean newShifted, boolean newBackward) {
            strength = newStrength;
            shifted = newShifted;
            backward = newBackward;
        }

        void make(Line line, Key key) {
            arrange(line);
            findElements();
            key.length = 0;
            for (int level = 0; level < strength; level++) {
                writeLevel(level, key);
            }
        }

        private void arrange(Line line) {
            length = line.length;
            for (int i = 0; i < length; i++) {
                int place = i;
                // Only a mark of class 2 lets one of class 1 pass, so marks of one class keep their order.
                while (place > 0 && mustPass(line.chars[i], text[place - 1])) {
                    text[place] = text[place - 1];
                    place--;
                }
                text[place] = line.chars[i];
            }
        }

        private static boolean mustPass(char c, char before) {
            return isMark(c) && isMark(before) && classOf(c) < classOf(before);
        }

        private void findElements() {
            elements = 0;
            behindVariable = false;
            int at = 0;
            for (int turn = 0; turn < length && at < length; turn++) {
                if (isMark(text[at])) {
                    addMark(text[at]);
                    at++;
                } else {
                    at = takeEntry(at);
                }
            }
        }

        /** Where the text goes on, behind the string and all the marks right behind it. */
        private int takeEntry(int start) {
            int entry = table.findLongest(headAt(start));
            int at = start + lengthOf(table.strings[entry]);
            int passedOver = 0;
            for (; at < length && isMark(text[at]); at++) {
                int longer = isBlocked(text[at], passedOver) ? NO_ENTRY : findLonger(entry, text[at]);
                if (longer != NO_ENTRY) {
                    entry = longer;
                } else {
                    passed[passedOver] = text[at];
                    passedOver++;
                }
            }
            addEntry(entry);
            // The marks passed over come next, and a mark that comes next is always an element.
            for (int i = 0; i < passedOver; i++) {
                addMark(passed[i]);
            }
            return at;
        }

        private int headAt(int start) {
            int head = text[start];
            for (int k = 1; k < STRING_LIMIT && start + k < length; k++) {
                head |= text[start + k] << (8 * k);
            }
            return head;
        }

        private boolean isBlocked(char mark, int passedOver) {
            for (int i = 0; i < passedOver; i++) {
                if (classOf(passed[i]) == classOf(mark)) {
                    return true;
                }
            }
            return false;
        }

        private int findLonger(int entry, char mark) {
            int string = table.strings[entry];
            int stringLength = lengthOf(string);
            return stringLength >= STRING_LIMIT ? NO_ENTRY : table.find(joined(string, stringLength, mark));
        }

        private void addEntry(int entry) {
            behindVariable = isVariable(table.strings[entry]);
            if (shifted && behindVariable) {
                addElement(0, 0, 0, table.primaries[entry]);
            } else {
                addElement(table.primaries[entry], table.secondaries[entry], table.tertiaries[entry], FOURTH);
            }
        }

        private void addMark(char mark) {
            if (!shifted || !behindVariable) {
                addElement(0, 100 + mark - '0', 1, 0);
            }
        }

        private void addElement(int first, int second, int third, int fourth) {
            if (elements >= TEXT_LIMIT) {
                return;
            }
            weights[0][elements] = first;
            weights[1][elements] = second;
            weights[2][elements] = third;
            weights[3][elements] = shifted ? fourth : 0;
            elements++;
        }

        private void writeLevel(int level, Key key) {
            boolean lastFirst = backward && level == 1;
            for (int i = 0; i < elements; i++) {
                int weight = weights[level][lastFirst ? elements - 1 - i : i];
                if (weight != 0) {
                    key.add(weight);
                }
            }
            key.add(0);
        }
    }

    /** The filed texts by rising numbers, with room for their keys. */
    private static final class Folder {
        final Line[] texts;
        final int[] numbers;
        final Key[] keys;
        int count;
        private int next;

        Folder() {
            texts = new Line[FILE_LIMIT];
            numbers = new int[FILE_LIMIT];
            keys = new Key[FILE_LIMIT];
            for (int i = 0; i < FILE_LIMIT; i++) {
                texts[i] = new Line(TEXT_LIMIT);
                keys[i] = new Key();
            }
            count = 0;
            next = 0;
        }

        int add(Line line) {
            if (count >= FILE_LIMIT) {
                return -1;
            }
            int number = next;
            next++;
            texts[count].copyFrom(line);
            numbers[count] = number;
            count++;
            return number;
        }

        boolean remove(int number) {
            for (int i = 0; i < count; i++) {
                if (numbers[i] == number) {
                    closeUp(i);
                    return true;
                }
            }
            return false;
        }

        private void closeUp(int gap) {
            for (int i = gap + 1; i < count; i++) {
                numbers[i - 1] = numbers[i];
                texts[i - 1].copyFrom(texts[i]);
            }
            count--;
        }

        /** The number of the text at that place in order, by the keys as they are. */
        int numberAt(int place) {
            for (int i = 0; i < count; i++) {
                if (placeOf(i) == place) {
                    return numbers[i];
                }
            }
            return -1;
        }

        private int placeOf(int text) {
            int place = countLess(keys[text]);
            for (int i = 0; i < text; i++) {
                if (keys[i].against(keys[text]) == 0) {
                    place++;
                }
            }
            return place;
        }

        int countLess(Key key) {
            int less = 0;
            for (int i = 0; i < count; i++) {
                if (keys[i].against(key) < 0) {
                    less++;
                }
            }
            return less;
        }
    }
}
