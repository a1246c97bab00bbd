import java.io.ByteArrayOutputStream;
import java.io.IOException;
import java.io.PrintStream;
import java.lang.reflect.Method;
import java.lang.reflect.Modifier;
import java.nio.charset.StandardCharsets;
import java.nio.file.Files;
import java.nio.file.Path;
import java.util.Set;
import java.util.TreeSet;
import java.util.regex.Matcher;
import java.util.regex.Pattern;
import java.util.stream.Stream;

/** What README.md tells: the example and its output, every call, every test, and files that are there. */
public final class Readme {
    private static int wrong = 0;

    private static void must(boolean holds, String what) {
        if (!holds) {
            wrong++;
            System.out.println("not so: " + what);
        }
    }

    /** The first block of a language, or nothing. */
    private static String block(String page, String language) {
        Matcher m = Pattern.compile("^```" + language + "\n(.*?)^```$", Pattern.DOTALL | Pattern.MULTILINE).matcher(page);
        return m.find() ? m.group(1) : "";
    }

    private static String printedByExample() {
        PrintStream usual = System.out;
        ByteArrayOutputStream printed = new ByteArrayOutputStream();
        System.setOut(new PrintStream(printed, true, StandardCharsets.UTF_8));
        Evening.main(new String[0]);
        System.setOut(usual);
        return printed.toString(StandardCharsets.UTF_8).replace(System.lineSeparator(), "\n");
    }

    private static void example(String page) throws IOException {
        must(block(page, "java").equals(Checkout.text("src/example/Evening.java")), "the example is the one in its file");
        must(block(page, "text").equals(printedByExample()), "the example prints what the page tells");
    }

    /** Each call stands once in the table, with as many parameters as it takes. */
    private static void calls(String page) {
        Set<String> told = new TreeSet<>();
        Matcher m = Pattern.compile("^\\| `(\\w+)\\(([^)]*)\\)` \\|", Pattern.MULTILINE).matcher(page);
        while (m.find()) {
            int parameters = m.group(2).isEmpty() ? 0 : m.group(2).split(", ").length;
            must(told.add(m.group(1) + " " + parameters), m.group(1) + " is told once");
        }
        Set<String> there = new TreeSet<>();
        for (Method method : SeeSawHearts.class.getDeclaredMethods()) {
            if (Modifier.isPublic(method.getModifiers())) {
                there.add(method.getName() + " " + method.getParameterCount());
            }
        }
        must(told.equals(there), "the calls are those of the class: " + told);
    }

    private static void tests(String page) throws IOException {
        try (Stream<Path> files = Files.list(Checkout.path("src/test/java"))) {
            files.forEach(file -> must(page.contains("`" + file.getFileName() + "`"), file + " is told"));
        }
        Matcher m = Pattern.compile("`(\\w+\\.java)`").matcher(page);
        while (m.find()) {
            must(Files.isRegularFile(Checkout.path("src/test/java/" + m.group(1))), m.group(1) + " is there");
        }
    }

    private static void files(String page) {
        Matcher m = Pattern.compile("src/[\\w/]+(\\.java)?").matcher(page);
        while (m.find()) {
            must(Files.exists(Checkout.path(m.group())), m.group() + " is there");
        }
        must(Files.isExecutable(Checkout.path(".ci/run")), ".ci/run can be run");
    }

    public static void main(String[] args) throws IOException {
        String page = Checkout.text("README.md");
        example(page);
        calls(page);
        tests(page);
        files(page);
        System.out.println(wrong == 0 ? "README.md tells what is so" : wrong + " things are not so");
        if (wrong != 0) {
            System.exit(1);
        }
    }
}
