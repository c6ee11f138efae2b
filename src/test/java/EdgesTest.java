import java.io.IOException;
import java.nio.file.Path;

/** Every sentence of the document that names a boundary case, each by a test of its own. */
public final class EdgesTest {
    public static void main(String[] args) throws IOException {
        Edge.readDocument(Path.of("../shared/DOC.md"));
        EdgesOfTerms.all();
        EdgesOfText.all();
        EdgesOfState.all();
        EdgesOfChanges.all();
        EdgesOfWeeks.all();
        EdgesOfBest.all();
        EdgesOfRain.all();
        EdgesOfSeen.all();
        EdgesOfDrift.all();
        EdgesOfSheets.all();
        EdgesOfRefusal.all();
        Edge.finish();
        Check.finish("EdgesTest");
    }
}
