import java.nio.file.Path;

/** Where the project's files are: as .ci/run says, else as seen from the project's root. */
final class Sources {
    private Sources() {
    }

    static Path main() {
        return told("MICE_SOURCE", "src/main/java/MiceRegisters.java");
    }

    static Path document() {
        return told("MICE_DOC", "../shared/DOC.md");
    }

    static Path readme() {
        return told("MICE_README", "README.md");
    }

    private static Path told(String name, String otherwise) {
        String told = System.getenv(name);
        return Path.of(told == null ? otherwise : told);
    }
}
