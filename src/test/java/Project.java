import java.nio.file.Files;
import java.nio.file.Path;
import java.util.ArrayList;
import java.util.List;
import java.util.regex.Matcher;
import java.util.regex.Pattern;

/** Where the project's files are: .ci/run names the root, a run by hand stands in it. */
final class Project {
    private Project() {
    }

    static Path root() {
        String named = System.getenv("NAMED_FOUNTAINS_ROOT");
        return Path.of(named == null ? "." : named);
    }

    static Path source() {
        return root().resolve("src/main/java/NamedFountains.java");
    }

    static Path tests() {
        return root().resolve("src/test/java");
    }

    static Path readme() {
        return root().resolve("README.md");
    }

    static Path document() {
        return root().resolve("../shared/DOC.md");
    }

    /** The calls of the document's face as they stand there, such as "int now(int what)". */
    static List<String> face() throws Exception {
        String document = Files.readString(document());
        Matcher block = Pattern.compile("(?s)## The public face\\s+```java\n(.*?)```").matcher(document);
        List<String> face = new ArrayList<>();
        if (block.find()) {
            Matcher call = Pattern.compile("public ((?:int|long) \\w+\\([^)]*\\));").matcher(block.group(1));
            while (call.find()) {
                face.add(call.group(1));
            }
        }
        return face;
    }

    /** "int now(int what)" is "now". */
    static String nameOf(String call) {
        return call.substring(call.indexOf(' ') + 1, call.indexOf('('));
    }
}
