import java.io.IOException;

/** Each sentence of the document that names a bound: calls at the bound and just beyond it, and what shows afterwards. */
public final class BoundsTest {
    private BoundsTest() {
    }

    public static void main(String[] args) throws IOException {
        Check check = new Check();
        Document document = new Document();
        new BoundsOfPictures(check, document).all();
        new BoundsOfFilters(check, document).all();
        new BoundsOfTones(check, document).all();
        new BoundsOfActs(check, document).all();
        for (String words : document.uncited()) {
            check.holds("no test cites \"" + words + "\"", false);
        }
        check.end();
    }
}
