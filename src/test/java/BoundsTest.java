/**
 * Each sentence of the document that names a boundary (too small, too large, empty, full, refused)
 * has a test of its own here, which begins with Due.says(..) and that sentence.
 */
public final class BoundsTest {
    public static void main(String[] args) {
        TextBounds.run();
        GaolBounds.run();
        DoneBounds.run();
        ComesBounds.run();
        HardBounds.run();
        KindsBounds.run();
        RefusedBounds.run();
        Due.allIsQuoted();
        Due.end("BoundsTest");
    }
}
