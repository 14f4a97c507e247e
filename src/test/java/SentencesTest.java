import java.nio.file.Path;

/** The document sentence by sentence: each one that can be broken has a test of its own, named by its words. */
public final class SentencesTest {
    private SentencesTest() {
    }

    public static void main(String[] args) throws java.io.IOException {
        Path program = Path.of(args.length > 0 ? args[0] : "src/main/java/StairKin.java");
        FirstCases.all();
        FaceCases.all();
        TermsCases.all();
        DeedCases.all();
        TextCases.all();
        LookCases.all();
        HistoryCases.all(program);
        Sentences.compareWith(Path.of("../shared/DOC.md"));
        Check.end("SentencesTest");
    }
}
