import java.nio.file.Path;

/** Each sentence of the document that names a boundary case: at the edge, beyond it, and what a refused call leaves. */
public final class BoundsTest {
    public static void main(String[] args) throws Exception {
        Sentences doc = new Sentences(Path.of("../shared/DOC.md"));
        new BoundsOfTerms(doc).run();
        new BoundsOfTexts(doc).run();
        new BoundsOfThrows(doc).run();
        new BoundsOfCracks(doc).run();
        new BoundsOfSearches(doc).run();
        new BoundsOfWear(doc).run();
        doc.end();
    }
}
