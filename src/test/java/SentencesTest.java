/** Each sentence of the document that names a boundary, with a test of its own. */
public final class SentencesTest {
    public static void main(String[] args) {
        Sentences sentences = new Sentences();
        DrawingSentences.tell(sentences);
        InputSentences.tell(sentences);
        ReadingSentences.tell(sentences);
        ChainSentences.tell(sentences);
        GapSentences.tell(sentences);
        AgreementSentences.tell(sentences);
        TransferSentences.tell(sentences);
        DistributeSentences.tell(sentences);
        DigestSentences.tell(sentences);
        ExceptionSentences.tell(sentences);
        sentences.end();
    }
}
