import java.io.IOException;
import java.nio.file.Files;
import java.nio.file.Path;
import java.util.List;

/** Each sentence of the document has a test here that bears its words. */
public final class SentenceTest {
    public static void main(String[] args) throws IOException {
        Report report = new Report();
        List<Sentences> groups = List.of(new TermSentences(report), new PlotSentences(report),
                new PromiseSentences(report), new MoveSentences(report), new AskingSentences(report),
                new FirstExceptionSentences(report), new RefusedCallSentences(report));
        groups.forEach(Sentences::run);
        Path file = Path.of("../shared/DOC.md");
        if (Files.exists(file)) {
            report.holdAgainst(Document.read(file));
        } else {
            System.out.println(file + " is not there, so the words of the tests are not held against it");
        }
        if (!report.isAllRight()) {
            System.exit(1);
        }
    }
}
