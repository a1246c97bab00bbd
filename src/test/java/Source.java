import java.io.IOException;
import java.util.regex.Matcher;
import java.util.regex.Pattern;

/** Rules of LANGUAGE.md that can be seen in the program's text, and the headings that the document asks for. */
public final class Source {
    private static final String[] HEADINGS = {"people", "the beam", "what is best", "the text", "sheets", "images"};
    private static final String[] CALLS = {
        "person of heart set turn as news", "load at hang take bag minutes now on tilt level mixed",
        "match seats weights sorrow kind delay fewest helps", "feed wipe park", "sheet write copy lays book read",
        "image undo tear count status"};
    private static final String[] FORBIDDEN = {
        "\\b(throw|throws|try|catch|finally|synchronized|assert|native|transient|volatile|strictfp)\\b",
        "\\bpackage\\b", "\\bimport (?!java\\.util\\.(ArrayList|List|Arrays|Iterator);)", "->", "::", "\\bjavax\\.",
        "\\bSystem\\.(?!arraycopy\\b)", "\\w+Exact\\b",
        "\\b(Thread|Runtime|Class|Object|Random|hashCode|getClass)\\b", "\\bstatic\\s*\\{"};

    private static int wrong = 0;

    private static void must(boolean holds, String what) {
        if (!holds) {
            wrong++;
            System.out.println("not so: " + what);
        }
    }

    private static void words(String code) {
        for (String each : FORBIDDEN) {
            Matcher m = Pattern.compile(each).matcher(code);
            must(!m.find(), "the program goes without " + each);
        }
        Matcher m = Pattern.compile("\\bstatic\\b(?! final\\b)[^(;]*[=;]").matcher(code);
        must(!m.find(), "static fields are final");
        must(code.chars().allMatch(c -> c == '\n' || c >= 32 && c < 127), "its signs are plain ones");
    }

    /** Each heading once, in order, and under it the public calls that the document puts there, in order. */
    private static void headings(String text) {
        StringBuilder told = new StringBuilder();
        Matcher m = Pattern.compile("// ---- ([a-z ]+)|public (?:int|long) (\\w+)\\(").matcher(text);
        while (m.find()) {
            told.append(m.group(1) != null ? "\n" + m.group(1) + ":" : " " + m.group(2));
        }
        StringBuilder due = new StringBuilder();
        for (int i = 0; i < HEADINGS.length; i++) {
            due.append("\n").append(HEADINGS[i]).append(": ").append(CALLS[i]);
        }
        must(told.toString().startsWith(due.toString()), "calls stand under the document's headings:" + told);
    }

    /** By the braces: from a line that opens a method to the one that closes it. */
    private static void lengths(String code) {
        Matcher m = Pattern.compile("^( +)[\\w\\[\\] ]+\\([^;{]*\\) \\{\n(.*?)^\\1\\}$", Pattern.MULTILINE | Pattern.DOTALL)
            .matcher(code);
        int methods = 0;
        while (m.find()) {
            methods++;
            must(m.group(2).lines().count() <= 60, "short: " + m.group().lines().findFirst().orElse(""));
        }
        must(methods >= 41, "all methods were seen: " + methods);
    }

    public static void main(String[] args) throws IOException {
        String text = Checkout.text("src/main/java/SeeSawHearts.java");
        String code = text.replaceAll("(?s)/\\*.*?\\*/", "").replaceAll("//[^\n]*", "").replaceAll("\"[^\"\n]*\"", "\"\"");
        words(code);
        headings(text);
        lengths(code);
        System.out.println(wrong == 0 ? "the program's text is as ruled" : wrong + " things are not so");
        if (wrong != 0) {
            System.exit(1);
        }
    }
}
