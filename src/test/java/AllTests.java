import java.nio.file.Files;
import java.nio.file.Path;

/**
 * Runs all tests of the project; the arguments are the files of the document and of the class.
 * Ends with exit code 1 if one failed.
 */
public final class AllTests {
    private AllTests() {
    }

    public static void main(String[] args) throws Exception {
        Checks checks = new Checks();
        Document document = new Document(Path.of(args[0]));
        String source = Files.readString(Path.of(args[1]));
        FaceTest.run(checks, document, source);
        BathTest.run(checks);
        SheetTest.run(checks);
        SewingTest.run(checks);
        SpineTest.run(checks);
        SkinTest.run(checks);
        RepairTest.run(checks);
        YearTest.run(checks);
        edges(checks, document, source);
        ModelTest.run(checks);
        if (!checks.report()) {
            System.exit(1);
        }
    }

    /** Every sentence of the document is named by a test, or by a reason for having none. */
    private static void edges(Checks checks, Document document, String source) {
        Edges edges = new Edges(checks, document);
        RuleEdges.run(edges, source);
        BathEdges.run(edges);
        SheetEdges.run(edges);
        ThreadEdges.run(edges);
        SpineEdges.run(edges);
        SkinEdges.run(edges);
        YearEdges.run(edges);
        checks.isTrue("that no sentence is without a test: " + document.notNamed(), document.notNamed().isEmpty());
        System.out.println(edges.tests() + " tests that are named by a sentence of the document");
    }
}
