import java.nio.file.Path;

/**
 * The document read promise by promise: each sentence that names a boundary case (too small, too large, empty,
 * full, a wrap-around, a refused call) has a test of its own here, with the promise's number beside it.
 */
public final class BoundaryTest {
    public static void main(String[] args) throws Exception {
        Sentences t = new Sentences(Path.of("../shared/DOC.md"));
        BoundaryTerms.test(t);
        BoundaryKinds.test(t);
        BoundaryTextTerms.test(t);
        BoundaryPeople.test(t);
        BoundaryMinutes.test(t);
        BoundaryBest.test(t);
        BoundaryText.test(t);
        BoundarySheets.test(t);
        BoundaryImages.test(t);
        t.end();
    }
}
