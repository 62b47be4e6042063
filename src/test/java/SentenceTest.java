import java.io.IOException;
import java.nio.file.Path;

/** Each sentence of the document by runs of its own, above all where it names a bound or a refused call. */
public final class SentenceTest {
    public static void main(String[] args) throws IOException {
        Book book = new Book(Path.of("../shared/DOC.md"));
        TermsCases.run(book);
        TextCases.run(book);
        TownCases.run(book);
        BeingCases.run(book);
        HourCases.run(book);
        WayCases.run(book);
        AdviceCases.run(book);
        SheetCases.run(book);
        ImageCases.run(book);
        book.end();
    }
}
