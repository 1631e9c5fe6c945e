import java.io.IOException;
import java.util.List;

/** All tests of single sentences: together they must quote the document from "Description" on. */
public final class SentencesTest {
    public static void main(String[] args) throws IOException {
        Edges.Record record = new Edges.Record(new Document());
        List<Edges> all = List.of(
                new ProcessesEdges(record),
                new PromisesEdges(record),
                new AcceptanceEdges(record),
                new MarketEdges(record),
                new TickEdges(record),
                new TextEdges(record),
                new SavedEdges(record),
                new ExceptionEdges(record));
        for (Edges edges : all) {
            edges.test();
        }
        record.end();
    }
}
