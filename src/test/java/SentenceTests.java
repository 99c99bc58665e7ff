import java.io.IOException;
import java.nio.file.Files;
import java.nio.file.Path;

/**
 * One test for each sentence of the document that names a boundary case. Each names its promise and quotes its
 * sentence; a quotation that does not stand in the document, and a promise without one, is a fault of its own.
 */
public final class SentenceTests extends Desk {
    private static final int PROMISES = 42;
    private static final boolean[] told = new boolean[PROMISES + 1];
    private static String doc = "";
    private static int sentences = 0;

    static void sentence(int itsPromise, String itsWords, Runnable test) {
        promise = itsPromise;
        words = itsWords;
        told[itsPromise] = true;
        sentences++;
        due("how often the sentence stands in the document, once at least,", doc.contains(itsWords) ? 1 : 0, 1);
        test.run();
        words = "";
    }

    public static void main(String[] args) throws IOException {
        Path root = Path.of(args.length > 0 ? args[0] : ".");
        doc = Files.readString(root.resolve("../shared/DOC.md"));
        NameSentences.all();
        TableSentences.all();
        ParcelSentences.all();
        OrderSentences.all();
        ActSentences.all();
        for (promise = 1; promise <= PROMISES; promise++) due("sentences with a test", told[promise] ? 1 : 0, 1);
        end(sentences + " sentences hold");
    }
}
