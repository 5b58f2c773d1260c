import java.io.IOException;
import java.nio.file.Files;
import java.nio.file.Path;
import java.util.ArrayList;
import java.util.List;

/**
 * The document's words, so that a test can't cite what does not stand there and no sentence stays without a test.
 * Run from the project's folder.
 */
final class Document {
    static final int PROMISES = 29;
    private static final Path PLACE = Path.of("../shared/DOC.md");

    private final String text;
    private final boolean[] cited;

    Document() throws IOException {
        text = Files.isReadable(PLACE) ? plain(Files.readString(PLACE)) : "";
        cited = new boolean[text.length()];
        if (!isThere()) {
            System.out.println(PLACE + " can't be read: what is cited is not looked up");
        }
    }

    boolean isThere() {
        return !text.isEmpty();
    }

    /** Whether the words stand in the promise's own section or in the parts that all promises share. */
    boolean cites(int promise, String words) {
        if (!isThere()) {
            return true;
        }
        return cites(words, promiseFrom(promise), promiseTo(promise)) || cites(words, factsFrom(), factsTo())
                || cites(words, termsFrom(), termsTo());
    }

    /** What of the promises and the parts that they share no test has cited. */
    List<String> uncited() {
        List<String> left = new ArrayList<>();
        if (isThere()) {
            addUncited(left, factsFrom(), factsTo());
            addUncited(left, termsFrom(), termsTo());
            for (int promise = 1; promise <= PROMISES; promise++) {
                addUncited(left, promiseFrom(promise), promiseTo(promise));
            }
        }
        return left;
    }

    /** Marks of layout are no words; all blanks are one. */
    private static String plain(String source) {
        return source.replaceAll("```(text|java)?", " ").replaceAll("======== [23]", " ").replaceAll("\\s+", " ");
    }

    private boolean cites(String words, int from, int to) {
        int start = text.indexOf(plain(words), from);
        int end = start + plain(words).length();
        if (from < 0 || start < 0 || end > to) {
            return false;
        }
        for (int i = start; i < end; i++) {
            cited[i] = true;
        }
        return true;
    }

    private void addUncited(List<String> left, int from, int to) {
        StringBuilder words = new StringBuilder();
        for (int i = Math.max(0, from); i <= to; i++) {
            if (i < to && !cited[i]) {
                words.append(text.charAt(i));
            } else {
                if (words.toString().matches(".*[A-Za-z0-9].*")) {
                    left.add(words.toString().strip());
                }
                words.setLength(0);
            }
        }
    }

    private int factsFrom() {
        return text.indexOf("PICTURES 0 to 7");
    }

    private int factsTo() {
        return text.indexOf("## The public face");
    }

    private int termsFrom() {
        return text.indexOf("0 BYTES");
    }

    private int termsTo() {
        return text.indexOf("Ahead of the calls");
    }

    /** Behind the signature, which FaceTest looks at. */
    private int promiseFrom(int promise) {
        int title = text.indexOf("## Promise " + promise + ":");
        return title < 0 ? -1 : text.indexOf("`: ", title) + 3;
    }

    private int promiseTo(int promise) {
        return text.indexOf(promise < PROMISES ? "## Promise " + (promise + 1) + ":" : "## Not promised");
    }
}
