/** Each sentence of the document that names a bound, by its own words, and a test of its own for it. */
final class BoundsTest {
    public static void main(String[] args) {
        BoundsText.all();
        BoundsLeaving.all();
        BoundsOwing.all();
        BoundsSworn.all();
        BoundsYears.all();
        BoundsAnswers.all();
        BoundsPromises.all();
        Sentences.end();
        Check.end("BoundsTest");
    }
}
