import java.io.IOException;

/** Goes through the document: the public face, then the sentences of the promises, then those of the terms. */
public final class DocumentTest {
    public static void main(String[] args) throws IOException, ReflectiveOperationException {
        Doc.read();
        PublicFace.test();
        InputPromises.test();
        HallPromises.test();
        RecordPromises.test();
        PairPromises.test();
        OffencePromises.test();
        ForecastPromises.test();
        ChangePromises.test();
        OutputPromises.test();
        UndoPromises.test();
        HallTerms.test();
        QueueTerms.test();
        TextTerms.test();
        StateTerms.test();
        Doc.requireAllTested();
        Check.finish("DocumentTest");
    }
}
