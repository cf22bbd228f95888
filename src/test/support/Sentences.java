import java.io.IOException;
import java.io.UncheckedIOException;
import java.nio.charset.StandardCharsets;
import java.nio.file.Files;
import java.nio.file.Path;

/** Tests of single sentences of the document, each told by its promise and by its own words. */
abstract class Sentences extends Checks {
    static final int NONE = UnpatternedRows.NONE;
    static final int[] NO_PLACES = {Integer.MIN_VALUE, -1, 4, Integer.MAX_VALUE};
    static final int[] NO_PERMUTATIONS = {Integer.MIN_VALUE, -21, -1, 2, 9, 10, 11, 13, 20, 102, 120, 1224, 1234568, 91234567,
        11234567, 12345670, 123456789, 987654321, 1234567890, Integer.MAX_VALUE};
    private static final Path DOCUMENT = Path.of("../shared/DOC.md");
    /** What stands ahead of all promises, then each promise; empty if the document isn't beside the project. */
    private static final String[] SECTIONS = sections();

    private static String[] sections() {
        if (!Files.exists(DOCUMENT)) {
            System.out.println("no " + DOCUMENT + ": its words aren't looked for");
            return new String[0];
        }
        try {
            return Files.readString(DOCUMENT, StandardCharsets.UTF_8).replaceAll("\\s+", " ").split("## Promise ");
        } catch (IOException e) {
            throw new UncheckedIOException(e);
        }
    }

    /** The words must still be the document's: else what is tested here is no promise any more. */
    static void sentence(int promise, String words, Runnable test) {
        tested = "promise " + promise + ", '" + words + "'";
        if (SECTIONS.length > promise && !SECTIONS[0].contains(words) && !SECTIONS[promise].contains(words)) {
            fail("the document has no such words");
        }
        try {
            test.run();
        } catch (RuntimeException e) {
            fail("threw " + e);
        }
    }

    /** A text with bytes of any kind, which aren't characters of a source file. */
    static String bytes(int... bytes) {
        StringBuilder text = new StringBuilder();
        for (int one : bytes) {
            text.append((char) one);
        }
        return text.toString();
    }
}
