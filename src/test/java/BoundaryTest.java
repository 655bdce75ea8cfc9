import java.io.IOException;

/** The document promise by promise: for each sentence a test of its own, which names the promise and the sentence. */
public final class BoundaryTest {
    public static void main(String[] args) throws IOException {
        Sentence.readDocument();
        BoundaryTermsHouse.all();
        BoundaryTermsText.all();
        BoundaryTermsSteps.all();
        BoundaryTape.all();
        BoundaryChanges.all();
        BoundarySteps.all();
        BoundaryRows.all();
        BoundaryLaws.all();
        BoundaryBeast.all();
        BoundaryImages.all();
        BoundarySheets.all();
        Sentence.finish();
        Check.finish();
    }
}
