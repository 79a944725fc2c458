import java.io.IOException;
import java.nio.file.Path;

/**
 * A test of its own for each sentence of the document that names a boundary case: too small, too large, empty,
 * full, a wrap-around, a refused call. Every test names its promise and its sentence, and what it finds wrong
 * is told with both.
 */
public final class BoundaryTest extends Boundaries {
    private BoundaryTest() {
    }

    public static void main(String[] args) throws IOException {
        startChecks("BoundaryTest");
        startSentences(Path.of("../shared/DOC.md"));
        TextBoundaries.all();
        ItemBoundaries.all();
        TimeBoundaries.all();
        ExchangeBoundaries.all();
        RumourBoundaries.all();
        TellingBoundaries.all();
        PartnerBoundaries.all();
        SettleBoundaries.all();
        RefusalBoundaries.all();
        endSentences();
        endChecks();
    }
}
