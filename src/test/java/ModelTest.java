import java.util.Random;

/** Runs of calls with fixed seeds, each answer compared with that of the model. */
public final class ModelTest {
    private static final int RUNS = 3000;
    private static final int CALLS = 512;
    private static final Due DUE = new Due("random runs against the model");

    private final Random random;
    private final int run;
    private final TailoredOrder x = new TailoredOrder();
    private final Model model = new Model();
    private int calls = 0;
    private final String letters;
    private int last = 0;

    private ModelTest(int run) {
        this.run = run;
        random = new Random(run);
        // Few letters make strings that meet often.
        letters = run % 3 == 0 ? "abcdefghABCDEFGH" : run % 3 == 1 ? "abA" : "ab";
    }

    public static void main(String[] args) {
        for (int run = 0; run < RUNS; run++) {
            ModelTest test = new ModelTest(run);
            while (test.calls < CALLS) {
                test.step();
            }
        }
        DUE.end();
    }

    private void due(String call, Object got, Object want) {
        calls++;
        if (calls > CALLS) {
            return;
        }
        DUE.is("run " + run + ", call " + calls + ": " + call, got, want);
    }

    private char pick(String from) {
        return from.charAt(random.nextInt(from.length()));
    }

    private int line() {
        return random.nextInt(20) == 0 ? random.nextInt(8) - 3 : random.nextInt(2);
    }

    private void step() {
        switch (random.nextInt(12)) {
            case 0, 1, 2 -> writeRule();
            case 3, 4 -> writeText(line());
            case 5 -> due("wipe", x.wipe(last), model.wipe(last));
            case 6 -> changeForm();
            case 7 -> askKey();
            case 8 -> askOrder();
            case 9 -> changeFile();
            case 10 -> askTable();
            default -> askSingle();
        }
        last = random.nextInt(6) - 1;
    }

    private void enter(int line, char c) {
        due("type(" + line + ", " + c + ")", x.type(line, c), model.type(line, c));
    }

    private void writeRule() {
        StringBuilder rule = new StringBuilder("&").append(anchor());
        int parts = 1 + random.nextInt(random.nextInt(6) + 1);
        for (int i = 0; i < parts; i++) {
            rule.append(new String[] {"<", "<<", "<<<", "="}[random.nextInt(4)]).append(string());
        }
        if (random.nextInt(6) == 0) {
            spoil(rule);
        }
        for (char c : rule.toString().toCharArray()) {
            enter(2, c);
        }
        due("tailor() of " + rule, x.tailor(), model.tailor());
        due("entries()", x.entries(), model.entries());
    }

    private void spoil(StringBuilder rule) {
        int at = random.nextInt(rule.length());
        switch (random.nextInt(3)) {
            case 0 -> rule.deleteCharAt(at);
            case 1 -> rule.insert(at, pick("&<=a1H z~"));
            default -> rule.setLength(at);
        }
    }

    private String anchor() {
        if (random.nextInt(8) == 0) {
            return string();
        }
        int i = 2 + random.nextInt(model.entries() - 2);
        StringBuilder string = new StringBuilder();
        for (int what = 0; what < 3 && model.entry(i, what) >= 0; what++) {
            string.append((char) model.entry(i, what));
        }
        return string.toString();
    }

    private String string() {
        StringBuilder string = new StringBuilder().append(pick(letters));
        for (int more = random.nextInt(3); more > 0; more--) {
            string.append(random.nextInt(3) == 0 ? pick(letters) : pick("1234"));
        }
        return string.toString();
    }

    private void writeText(int line) {
        if (random.nextInt(3) > 0) {
            due("wipe(" + line + ")", x.wipe(line), model.wipe(line));
        }
        for (int n = random.nextInt(14); n > 0; n--) {
            int kind = random.nextInt(20);
            enter(line, kind < 9 ? pick(letters) : kind < 17 ? pick("1234") : kind < 19 ? pick(" -") : pick("05iIz_"));
        }
    }

    private void changeForm() {
        int strength = random.nextInt(10) == 0 ? random.nextInt(9) - 2 : 1 + random.nextInt(4);
        boolean shifted = random.nextBoolean();
        boolean backward = random.nextBoolean();
        due("form(" + strength + ", " + shifted + ", " + backward + ")",
            x.form(strength, shifted, backward), model.form(strength, shifted, backward));
    }

    private void askKey() {
        int line = line();
        due("keyLength(" + line + ")", x.keyLength(line), model.keyLength(line));
        for (int i = -1; i <= model.keyLength(line); i++) {
            due("keyAt(" + line + ", " + i + ")", x.keyAt(line, i), model.keyAt(line, i));
        }
    }

    private void askOrder() {
        for (int i = -1; i <= model.filed(); i++) {
            due("inOrder(" + i + ")", x.inOrder(i), model.inOrder(i));
        }
        for (int line = -1; line < 3; line++) {
            due("below(" + line + ")", x.below(line), model.below(line));
        }
    }

    private void changeFile() {
        for (int n = 1 + random.nextInt(3); n > 0; n--) {
            int line = line();
            writeText(line);
            due("file(" + line + ")", x.file(line), model.file(line));
        }
        int number = random.nextInt(20) - 2;
        due("unfile(" + number + ")", x.unfile(number), model.unfile(number));
        due("filed()", x.filed(), model.filed());
    }

    private void askTable() {
        int i = random.nextInt(34) - 2;
        for (int what = -1; what < 8; what++) {
            due("entry(" + i + ", " + what + ")", x.entry(i, what), model.entry(i, what));
        }
    }

    private void askSingle() {
        due("compare()", x.compare(), model.compare());
        due("filed()", x.filed(), model.filed());
        due("entries()", x.entries(), model.entries());
    }
}
