/** Each sentence of the document that names a boundary case has a test of its own here. */
public final class BoundaryTest {
    /** What names no edge, nothing empty or full, and no call that is refused; other tests look at it. */
    private static final String[] NO_BOUNDARY = {
        "Deals among sites that end all in the same way",
        "Sites, items",
        "the interface says: ----",
    };

    private BoundaryTest() {
    }

    public static void main(String[] args) {
        BoundaryOfDeals.all();
        BoundaryOfDecisions.all();
        BoundaryOfSites.all();
        BoundaryOfQueries.all();
        BoundaryOfForecasts.all();
        BoundaryOfText.all();
        BoundaryOfUndo.all();
        for (String words : NO_BOUNDARY) {
            Sentences.name(Sentences.ALL_CALLS, words);
        }
        Sentences.dueAll();
        Checks.end("BoundaryTest");
    }
}
