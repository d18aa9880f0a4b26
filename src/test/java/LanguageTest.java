import java.lang.reflect.Field;
import java.lang.reflect.Method;
import java.lang.reflect.Modifier;
import java.nio.file.Files;
import java.util.ArrayList;
import java.util.List;
import java.util.Set;
import java.util.regex.Matcher;
import java.util.regex.Pattern;

/** Of LANGUAGE.md, by the numbers of its rules, what can be seen without reading. */
public final class LanguageTest {
    private static final Due DUE = new Due("LanguageTest");
    private static final String[] BARRED = {"throw", "throws", "try", "catch", "finally", "synchronized", "assert",
        "new Object", "->", "::", "Exact", "protected", "static \\{", "System\\.(?!arraycopy)", "Thread", "Random"};
    /** Rule 4 lists functions alone, so that a constant such as Integer's greatest number is not of the library. */
    private static final Set<String> LIBRARY = Set.of("Math.min", "Math.max", "Math.abs", "Math.floorDiv",
        "Math.floorMod", "Integer.compare", "Integer.bitCount", "Long.compare", "Long.bitCount", "System.arraycopy",
        "Arrays.fill", "Arrays.copyOf", "Arrays.copyOfRange");
    private static final Set<Class<?>> CONSTANTS = Set.of(int.class, long.class, boolean.class, char.class,
        String.class, int[].class, long[].class, char[].class, byte[].class);
    private static final int MOST_CLASSES = 12;
    private static final int MOST_FIELDS = 20;
    private static final int MOST_PARAMETERS = 7;
    private static final int MOST_LINES = 60;

    public static void main(String[] args) throws Exception {
        List<Class<?>> classes = new ArrayList<>(List.of(NamedFountains.class.getDeclaredClasses()));
        classes.add(NamedFountains.class);
        DUE.is("rule 11: at most twelve classes", classes.size() <= MOST_CLASSES ? 1 : 0, 1);
        for (Class<?> one : classes) {
            fields(one);
            parameters(one);
        }
        String code = Files.readString(Project.source()).replaceAll("(?s)/\\*.*?\\*/", "").replaceAll("//[^\n]*", "");
        barred(code);
        library(code, classes);
        lengths(code);
        DUE.is("rule 4: signs are 1 to 127", code.chars().filter(c -> c < 1 || c > 127).count(), 0);
        DUE.end();
    }

    private static void fields(Class<?> one) {
        int own = 0;
        for (Field field : one.getDeclaredFields()) {
            if (!Modifier.isStatic(field.getModifiers())) {
                own++;
            } else {
                DUE.is("rule 5: " + field + " is final", Modifier.isFinal(field.getModifiers()) ? 1 : 0, 1);
                DUE.is("rule 5: " + field + " is a constant", CONSTANTS.contains(field.getType()) ? 1 : 0, 1);
            }
        }
        DUE.is("rule 11: at most twenty fields in " + one, own <= MOST_FIELDS ? 1 : 0, 1);
    }

    private static void parameters(Class<?> one) {
        for (Method method : one.getDeclaredMethods()) {
            DUE.is("rule 11: parameters of " + method, method.getParameterCount() <= MOST_PARAMETERS ? 1 : 0, 1);
        }
    }

    private static void barred(String code) {
        for (String barred : BARRED) {
            String edge = Character.isLetter(barred.charAt(0)) && !barred.equals("Exact") ? "\\b" : "";
            Matcher found = Pattern.compile(edge + barred + (edge.isEmpty() || barred.endsWith(")") ? "" : edge)).matcher(code);
            DUE.is("rule 6: '" + barred + "' in the source", found.find() ? 1 : 0, 0);
        }
    }

    private static void library(String code, List<Class<?>> classes) {
        Set<String> names = new java.util.HashSet<>(Set.of("String"));
        for (Class<?> one : classes) {
            names.add(one.getSimpleName());
        }
        String words = code.replaceAll("import java\\.util\\.(Arrays|ArrayList|List);", "").replaceAll("\"[^\"]*\"", "");
        Matcher used = Pattern.compile("(?<![\\w.])([A-Z]\\w*[a-z]\\w*)(\\.\\w+)?").matcher(words);
        while (used.find()) {
            boolean listed = names.contains(used.group(1)) && used.group(2) == null || LIBRARY.contains(used.group());
            DUE.is("rule 4: " + used.group() + " is of the library that may be used", listed ? 1 : 0, 1);
        }
        DUE.is("rule 4: other imports", Pattern.compile("\\bimport\\b").matcher(words).find() ? 1 : 0, 0);
    }

    /** A method's body ends where a brace stands as far in as its head. */
    private static void lengths(String code) {
        String[] lines = code.split("\n");
        for (int i = 0; i < lines.length; i++) {
            Matcher head = Pattern.compile("( {4}| {8})\\w.*\\w\\(.*\\) \\{").matcher(lines[i]);
            if (head.matches()) {
                int end = i;
                while (end < lines.length && !lines[end].equals(head.group(1) + "}")) {
                    end++;
                }
                DUE.is("rule 11: lines of " + lines[i].trim(), end - i < MOST_LINES ? 1 : 0, 1);
            }
        }
    }
}
