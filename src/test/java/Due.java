import java.io.IOException;
import java.io.UncheckedIOException;
import java.nio.file.Files;
import java.nio.file.Path;

/** Counts the answers of a test that are not the ones that are due. */
final class Due {
    private static final Path DOCUMENT = Path.of("../shared/DOC.md");

    static final int INVALID = IndicatorDiagram.INVALID_ARGUMENT;
    static final int ILLEGAL = IndicatorDiagram.ILLEGAL_STATE;
    static final int FULL = IndicatorDiagram.CAPACITY_EXCEEDED;
    static final int NONE = IndicatorDiagram.NONE;

    private int wrong = 0;
    private int looked = 0;
    private String promise = "";
    private String document = "";

    void promise(int number) {
        promise = "promise " + number + ": ";
    }

    /** The words of the document that the next answers belong to. */
    void sentence(String words) {
        promise = "\"" + words + "\": ";
        if (!document().contains(words)) {
            wrong++;
            System.out.println(promise + "the document has no such words");
        }
    }

    private String document() {
        if (document.isEmpty()) {
            try {
                document = Files.readString(DOCUMENT).replace("`", "").replaceAll("\\s+", " ");
            } catch (IOException unread) {
                throw new UncheckedIOException(unread);
            }
        }
        return document;
    }

    void is(String call, long got, long want) {
        looked++;
        if (got != want) {
            wrong++;
            System.out.println(promise + call + " answered " + got + ", due is " + want);
        }
    }

    void are(String calls, String got, String want) {
        looked++;
        if (!got.equals(want)) {
            wrong++;
            System.out.println(promise + calls + " answered " + got + ", due is " + want);
        }
    }

    void end() {
        System.out.println(wrong == 0 ? "all " + looked + " answers are as due" : wrong + " answers are not as due");
        if (wrong != 0) {
            System.exit(1);
        }
    }
}
