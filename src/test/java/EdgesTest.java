/** Each sentence of the document, quoted, with what is due by it: on both sides, where it names a boundary. */
public final class EdgesTest extends Hand {
    public static void main(String[] args) {
        EdgesOfThings.all();
        EdgesOfMeans.all();
        EdgesOfBuyers.all();
        EdgesOfTexts.all();
        EdgesOfSheets.all();
        EdgesOfRows.all();
        EdgesOfTerms.all();
        for (int i = 1; i <= 43; i++) {
            promise = i;
            if (!promises.contains(i)) {
                fail("none of its sentences has a test");
            }
        }
        promise = 0;
        dueQuoted("## Terms", "## Not promised");
        end();
    }
}
