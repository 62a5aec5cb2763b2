/** A test for each sentence of the section Terms. */
public final class TermsSentencesTest {
    public static void main(String[] args) {
        Sentences doc = new Sentences("What it is", "Terms");
        VillageTerms.tell(doc);
        MeetingTerms.tell(doc);
        StateTerms.tell(doc);
        doc.end();
    }
}
