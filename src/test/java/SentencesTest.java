/** Each sentence of ../shared/DOC.md by itself; a complaint begins with the sentence. */
public final class SentencesTest {
    public static void main(String[] args) {
        TermSentences.test();
        TextSentences.test();
        SetupSentences.test();
        TransferSentences.test();
        PartialSentences.test();
        TellingSentences.test();
        Check.about = "";
        Doc.end();
        Check.end();
    }
}
