import java.io.IOException;

/** Every sentence of the document that names a boundary case, by a test of its own. */
public final class BoundsTest {
    public static void main(String[] args) throws IOException {
        Sentence.readDocument();
        BoundsOfText.all();
        BoundsOfTape.all();
        BoundsOfPipe.all();
        BoundsOfRuns.all();
        BoundsOfGuesses.all();
        BoundsOfBook.all();
        Sentence.noneIsLeftOut();
        System.out.println("BoundsTest: " + Sentence.tests() + " tests of sentences");
        Check.close("BoundsTest");
    }
}
