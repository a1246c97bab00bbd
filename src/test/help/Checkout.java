import java.io.IOException;
import java.nio.charset.StandardCharsets;
import java.nio.file.Files;
import java.nio.file.Path;

/** The files of the project, for tests that read them. */
final class Checkout {
    private Checkout() {
    }

    /** Where the project lies: told by .ci/run, else the folder that the test is run in. */
    static Path path(String file) {
        return Path.of(System.getProperty("root", ".")).resolve(file);
    }

    static String text(String file) throws IOException {
        return Files.readString(path(file), StandardCharsets.UTF_8);
    }
}
