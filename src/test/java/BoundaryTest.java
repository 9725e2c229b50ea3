/** Each sentence of the document that names a boundary, in a test that quotes it. */
public final class BoundaryTest {
    private BoundaryTest() {
    }

    public static void main(String[] args) {
        BoundariesOfTexts.tryAll();
        BoundariesOfGroups.tryAll();
        BoundariesOfRuns.tryAll();
        BoundariesOfSheets.tryAll();
        Refusals.tryAll();
        Bench.checkAllRefusals();
        Bench.finish();
    }
}
