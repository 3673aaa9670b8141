/** That every sentence of Terms and of promises 1 to 27 has an edge test named by it. */
public final class SentencesTest {
    public static void main(String[] args) {
        Edges e = new Edges("SentencesTest");
        TextEdgesTest.all(e);
        WallEdgesTest.all(e);
        YearEdgesTest.all(e);
        ComesEdgesTest.all(e);
        MindEdgesTest.all(e);
        SlipEdgesTest.all(e);
        RefusedEdgesTest.all(e);
        Due due = new Due("SentencesTest");
        due.holds("there are sentences", e.sentences() > 0);
        for (String part : e.partsOfDocument()) {
            String rest = e.notQuoted(part);
            due.holds(part + " has words that no test is named by: " + rest, rest.isEmpty());
        }
        due.end();
    }
}
