import java.io.IOException;
import java.nio.file.Files;
import java.nio.file.Path;

/**
 * Every sentence of the document has a test of its own, which names it. The arguments are the
 * ways to the program and to the document; without one the tests run, but no text is compared.
 */
public final class DocumentTest {
    private DocumentTest() {
    }

    public static void main(String[] args) throws IOException {
        if (args.length > 1 && Files.isReadable(Path.of(args[1]))) {
            Document.read(Path.of(args[1]));
        } else {
            System.out.println("there is no document: whether each sentence is named is not looked at");
        }
        if (args.length > 0) {
            FaceOfProgram.all(Files.readString(Path.of(args[0])));
        }
        EdgesOfRows.all();
        EdgesOfTexts.all();
        EdgesOfSayings.all();
        EdgesOfTwo.all();
        EdgesOfAsks.all();
        Document.allIsNamed();
        Checks.end();
    }
}
