import java.io.IOException;

/** A test for each sentence of the document that names a boundary case; see Sentences. */
public final class SentencesTest {
  public static void main(String[] args) throws IOException {
    Sentences s = new Sentences();
    new RowSentences(s).all();
    new TextSentences(s).all();
    new FaultSentences(s).all();
    new HalfSentences(s).all();
    new ForetoldSentences(s).all();
    new SetSentences(s).all();
    new ImageSentences(s).all();
    new AskSentences(s).all();
    new WholeSentences(s).all();
    s.end();
  }
}
