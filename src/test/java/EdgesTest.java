import java.io.IOException;
import java.nio.file.Path;

/**
 * Promises 1 to 23 and "Terms", sentence by sentence: each boundary that a sentence names, itself and on both sides.
 * It fails, too, if a sentence of the document is named by no test, or if the words of a test stand nowhere in it.
 */
public final class EdgesTest {
    public static void main(String[] args) throws IOException {
        Document document = new Document(Path.of(args.length > 0 ? args[0] : "../shared/DOC.md"));
        Checks checks = new Checks("EdgesTest");
        Edges edges = new Edges(checks, document);
        new EdgesOfPorts(edges).all();
        new EdgesOfFrames(edges).all();
        new EdgesOfSeconds(edges).all();
        new EdgesOfTexts(edges).all();
        new EdgesOfHistory(edges).all();
        new EdgesOfTelling(edges).all();
        checks.promise("the document");
        checks.same("the sentences without a test", String.join("\n", document.unnamed()), "");
        checks.end();
    }
}
