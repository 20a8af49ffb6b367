import java.io.IOException;

/** Goes through the sentences of the document, the promises first, then the terms. */
public final class DocumentTest {
    public static void main(String[] args) throws IOException {
        Doc.read();
        InputPromises.test();
        HallPromises.test();
        RecordPromises.test();
        PairPromises.test();
        OffencePromises.test();
        ForecastPromises.test();
        ChangePromises.test();
        OutputPromises.test();
        UndoPromises.test();
        HallTerms.test();
        QueueTerms.test();
        TextTerms.test();
        StateTerms.test();
        Doc.requireAllTested();
        Check.finish("DocumentTest");
    }
}
