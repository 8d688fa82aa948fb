public final class Promise05EntriesTest {
    public static void main(String[] args) {
        Due due = new Due("promise 5, entries");
        TailoredOrder x = new TailoredOrder();
        due.is("entries()", x.entries(), 18);
        Due.rule(x, "&a<ab=ac");
        due.is("entries() behind two more", x.entries(), 20);
        Due.rule(x, "&b<ab<c");
        due.is("entries() behind two moved", x.entries(), 20);
        Due.rule(x, "&b<abc<d1<d1");
        due.is("entries() behind a refusal", x.entries(), 20);
        Due.rule(x, "&b<");
        due.is("entries() behind no rule", x.entries(), 20);
        due.end();
    }
}
