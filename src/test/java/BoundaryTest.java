import java.io.IOException;
import java.nio.file.Files;
import java.nio.file.Path;

/** Each sentence of the document that names a boundary case, with a test of its own under the sentence's words. */
public final class BoundaryTest {
    public static void main(String[] args) throws IOException {
        TextBoundaries.run();
        WallBoundaries.run();
        ResultBoundaries.run();
        StatusBoundaries.run();
        RefusedBoundaries.run();
        Check.endSentence();
        tellQuotesThatAreGone(Path.of("../shared/DOC.md"));
        System.out.println(Check.sentences().size() + " sentences");
        Check.finish();
    }

    /** No failure, since a document that was written anew may say the same in other words: look there. */
    private static void tellQuotesThatAreGone(Path document) throws IOException {
        if (!Files.isReadable(document)) {
            return;
        }
        String text = Files.readString(document);
        for (String sentence : Check.sentences()) {
            if (!text.contains(sentence)) {
                System.out.println("not in the document's words: " + sentence);
            }
        }
    }
}
