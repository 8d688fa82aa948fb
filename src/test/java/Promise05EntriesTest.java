public final class Promise05EntriesTest {
    private static final Due DUE = new Due("promise 5, entries");

    public static void main(String[] args) {
        DUE.sentence("How many entries the table has: at first there are 18", () ->
            DUE.is("entries()", new Driven().entries(), 18));
        DUE.sentence("How many entries the table has: with more of them, and with some moved",
            Promise05EntriesTest::moreEntries);
        DUE.sentence("How many entries the table has: behind what is not done", Promise05EntriesTest::notDone);
        DUE.sentence("How many entries the table has: 30 at most", Promise05EntriesTest::mostEntries);
        DUE.end();
    }

    private static void moreEntries() {
        Driven x = new Driven().with("&a<ab=ac");
        DUE.is("entries() with two more", x.entries(), 20);
        x.with("&b<ab<c");
        DUE.is("entries() with two moved", x.entries(), 20);
        x.add(0, "abcd");
        x.file(0);
        DUE.is("entries() with a text filed", x.entries(), 20);
    }

    private static void notDone() {
        Driven x = new Driven().with("&a<ab=ac");
        for (String rule : new String[] {"&b<abc<d1<d1", "&b1<c1", "&b<", "&b<c1!", ""}) {
            x.rule(rule);
            DUE.is("entries() behind " + rule, x.entries(), 20);
        }
    }

    private static void mostEntries() {
        Driven x = new Driven();
        for (int more = 1; more <= 14; more++) {
            x.rule("&a<" + (char) ('a' + (more - 1) % 8) + (more <= 8 ? "1" : "2"));
            DUE.is("entries() behind rule " + more, x.entries(), Math.min(18 + more, 30));
        }
    }
}
