import java.io.File;
import java.lang.reflect.Method;
import java.nio.file.Files;
import java.util.ArrayList;
import java.util.Collections;
import java.util.List;
import java.util.regex.Matcher;
import java.util.regex.Pattern;

/** What README.md says is so: its example, its findings, its calls and its tests. */
public final class ReadmeTest {
    private static final Due DUE = new Due("ReadmeTest");
    private static final int EXAMPLE_CALLS = 9;
    private static final String[] FINDINGS = {"BEYOND", "FULL", "KIND", "NONE", "STATE", "MISSING", "SIZE"};

    /** KIND and MISSING are terms, too: "one of another KIND", "it is MISSING". */
    private static final Pattern FINDING =
        Pattern.compile("\\b(BEYOND|FULL|(?<!another )KIND(?=:)|NONE|STATE|(?<!is )MISSING|SIZE)\\b");

    public static void main(String[] args) throws Exception {
        String page = Files.readString(Project.readme());
        example(page);
        findings(page);
        calls(page);
        tests(page);
        DUE.end();
    }

    /** The calls of the example in their order, each with the number that stands behind it. */
    private static void example(String page) throws Exception {
        NamedFountains town = new NamedFountains();
        Matcher line = Pattern.compile("town\\.(\\w+)\\(([^)]*)\\); +// (-?\\d+),").matcher(page);
        int calls = 0;
        while (line.find()) {
            calls++;
            DUE.is("README's " + line.group(), answer(town, line.group(1), line.group(2)), Long.parseLong(line.group(3)));
        }
        DUE.is("calls of README's example", calls, EXAMPLE_CALLS);
    }

    private static long answer(NamedFountains town, String name, String list) throws Exception {
        String[] texts = list.isEmpty() ? new String[0] : list.split(", ");
        for (Method method : NamedFountains.class.getMethods()) {
            if (method.getName().equals(name) && method.getParameterCount() == texts.length) {
                Object[] values = new Object[texts.length];
                for (int i = 0; i < texts.length; i++) {
                    boolean isInt = method.getParameterTypes()[i] == int.class;
                    values[i] = isInt ? (Object) Integer.decode(texts[i]) : (Object) Long.decode(texts[i]);
                }
                return ((Number) method.invoke(town, values)).longValue();
            }
        }
        throw new IllegalArgumentException("README calls " + name + "(" + list + "), which isn't there");
    }

    private static void findings(String page) {
        for (int i = 0; i < FINDINGS.length; i++) {
            String row = "| " + (Due.BEYOND - i) + " | " + FINDINGS[i] + " | " + i + " |";
            DUE.is("README has " + row, page.contains(row) ? 1 : 0, 1);
        }
    }

    /** README's rows are the calls of the face in their order, each with the findings that its promise asks. */
    private static void calls(String page) throws Exception {
        List<String> due = new ArrayList<>();
        for (String call : Project.face()) {
            String named = call.substring(call.indexOf(' ') + 1).replaceAll("\\b(int|long) ", "");
            due.add(named + " " + findingsOf(Project.nameOf(call)));
        }
        List<String> is = new ArrayList<>();
        Matcher row = Pattern.compile("\n\\| `(\\w+\\([^`]*\\))` \\|.*\\| ?([A-Z, ]*) ?\\|").matcher(page);
        while (row.find()) {
            is.add(row.group(1) + " " + row.group(2).trim());
        }
        for (int i = 0; i < Math.max(due.size(), is.size()); i++) {
            String wanted = i < due.size() ? due.get(i) : "nothing";
            String got = i < is.size() ? is.get(i) : "nothing";
            DUE.is("README's call " + i + " is " + got + ", due " + wanted, got.equals(wanted) ? 1 : 0, 1);
        }
    }

    /** The findings that the call's promise names, in their order. */
    private static String findingsOf(String name) throws Exception {
        String document = Files.readString(Project.document());
        Matcher promise = Pattern.compile("## Promise \\d+: " + name + "\n\n`[^`]*`: (.*)\n").matcher(document);
        if (!promise.find()) {
            return "no promise";
        }
        // status names the first and the last of its numbers, which aren't answers of its own.
        String text = promise.group(1).replace("BEYOND to SIZE", "");
        Matcher finding = FINDING.matcher(text);
        List<String> found = new ArrayList<>();
        while (finding.find()) {
            found.add(finding.group(1));
        }
        return String.join(", ", found);
    }

    private static void tests(String page) {
        List<String> due = new ArrayList<>();
        for (File file : Project.tests().toFile().listFiles()) {
            if (file.getName().endsWith("Test.java")) {
                due.add(file.getName().replace(".java", ""));
            }
        }
        List<String> is = new ArrayList<>();
        Matcher row = Pattern.compile("\n\\| `(\\w+Test)` \\|").matcher(page);
        while (row.find()) {
            is.add(row.group(1));
        }
        Collections.sort(due);
        Collections.sort(is);
        DUE.is("README's tests are " + is + ", due " + due, is.equals(due) ? 1 : 0, 1);
        Matcher named = Pattern.compile("`((?:\\.\\./|src/)[\\w/]+(?:\\.\\w+)?|\\.ci/run|\\w+\\.md)`").matcher(page);
        while (named.find()) {
            boolean there = Files.exists(Project.root().resolve(named.group(1)));
            DUE.is("README names " + named.group(1), there ? 1 : 0, 1);
        }
    }
}
