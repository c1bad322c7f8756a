import java.io.IOException;
import java.nio.file.Files;
import java.nio.file.Path;

/** The files that the tests look things up in. */
final class Texts {
    private static final Path DOCUMENT = Path.of("../shared/DOC.md");
    private static final Path CLASS = Path.of("src/main/java/TrayBench.java");
    private static final Path README = Path.of("README.md");

    private Texts() {
    }

    /** Empty in a checkout without the document. */
    static String document() throws IOException {
        return Files.exists(DOCUMENT) ? Files.readString(DOCUMENT) : "";
    }

    static String readme() throws IOException {
        return Files.readString(README);
    }

    /** The class without its comments; no text in it looks like one. */
    static String code() throws IOException {
        return Files.readString(CLASS).replaceAll("(?s)/\\*.*?\\*/", "").replaceAll("//.*", "");
    }

    static String between(String text, String from, String to) {
        int start = text.indexOf(from);
        if (start < 0) {
            return "";
        }
        start += from.length();
        int end = text.indexOf(to, start);
        return text.substring(start, end < 0 ? text.length() : end);
    }

    static int times(String text, String part) {
        int times = 0;
        for (int at = text.indexOf(part); at >= 0; at = text.indexOf(part, at + part.length())) {
            times++;
        }
        return times;
    }
}
