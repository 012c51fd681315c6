/** All promises: for each sentence of the document that names a boundary case a test of its own. */
final class BoundsTest {
    public static void main(String[] args) {
        TermsBounds.run();
        OrderBounds.run();
        LinesBounds.run();
        RefusedBounds.run();
        StreetsBounds.run();
        IndexBounds.run();
        SquaresBounds.run();
        WalksBounds.run();
        Bounds.end();
    }
}
