/** Each sentence of the document that names a boundary, quoted, with what is due on both sides of it. */
public final class EdgesTest extends Hand {
    public static void main(String[] args) {
        EdgesOfThings.all();
        EdgesOfMeans.all();
        EdgesOfBuyers.all();
        EdgesOfTexts.all();
        EdgesOfSheets.all();
        EdgesOfRows.all();
        for (int i = 1; i <= 43; i++) {
            promise = i;
            if (!promises.contains(i)) {
                fail("none of its sentences has a test");
            }
        }
        end();
    }
}
