import java.io.IOException;
import java.nio.file.Files;
import java.nio.file.Path;

/** The document by its sections, and which of its words a test has quoted. */
final class Doc {
    private static final int PROMISES = 43;

    private final String[] sections = new String[PROMISES + 1];
    private final boolean[][] quoted = new boolean[PROMISES + 1][];
    private final boolean isThere;

    private Doc(String whole) {
        isThere = !whole.isEmpty();
        for (int number = 0; number <= PROMISES; number++) {
            sections[number] = plain(number == 0 ? terms(whole) : promise(whole, number));
            quoted[number] = new boolean[sections[number].length()];
        }
    }

    static Doc read() {
        return new Doc(whole());
    }

    /** All of it, or nothing, if it is not there. */
    static String whole() {
        Path path = Sources.document();
        try {
            return Files.readString(path);
        } catch (IOException missing) {
            System.out.println("no document at " + path + ": quotes are not looked up");
            return "";
        }
    }

    private static String terms(String whole) {
        return between(whole, "An object is used", "\n## The public face") + between(whole, "\n## Terms\n", "\n## Promise 1:");
    }

    private static String promise(String whole, int number) {
        String section = between(whole, "\n## Promise " + number + ":", "\n## ");
        return section.substring(section.indexOf("`: ") < 0 ? 0 : section.indexOf("`: ") + 3);
    }

    private static String between(String whole, String from, String to) {
        int begin = whole.indexOf(from);
        if (begin < 0) {
            return "";
        }
        int end = whole.indexOf(to, begin + from.length());
        return whole.substring(begin, end < 0 ? whole.length() : end);
    }

    /** Titles are left out: of the words ahead of the calls, too, what stands in brackets alone is said. */
    private static String plain(String text) {
        return text.replaceAll("Ahead of the calls [^\n]* the interface says: ---- [0-9][a-z, ]*\\.?", " ").replaceAll("(?m)^```.*$", " ").replaceAll("## [^\n]*", " ").replaceAll("\\s+", " ").trim();
    }

    /** Marks these words as quoted: whether they stand there. */
    boolean quote(int number, String words) {
        int from = sections[number].indexOf(words);
        for (int at = from; at >= 0; at = sections[number].indexOf(words, at + 1)) {
            java.util.Arrays.fill(quoted[number], at, at + words.length(), true);
        }
        return !isThere || from >= 0;
    }

    /** The words of a section that no test has quoted; all that is left out of them is signs between. */
    String notQuoted(int number) {
        StringBuilder rest = new StringBuilder();
        for (int i = 0; i < quoted[number].length; i++) {
            char sign = sections[number].charAt(i);
            if (!quoted[number][i] && (Character.isLetterOrDigit(sign) || rest.length() > 0 && sign == ' ')) {
                rest.append(sign);
            }
        }
        return rest.toString().trim();
    }
}
