/** A test of each sentence of the document, at the bounds that it names. */
public final class BoundsTest {
    public static void main(String[] args) {
        PageBounds.run();
        TextBounds.run();
        HistoryBounds.run();
        LookingBounds.run();
        PlansBounds.run();
        Doc.allSaid();
        Checks.end(BoundsTest.class);
    }
}
