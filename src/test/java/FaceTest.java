import java.lang.reflect.Constructor;
import java.lang.reflect.Field;
import java.lang.reflect.Method;
import java.lang.reflect.Modifier;
import java.nio.file.Files;
import java.nio.file.Path;
import java.util.ArrayList;
import java.util.Collections;
import java.util.List;
import java.util.regex.Matcher;
import java.util.regex.Pattern;

/** The public face of the document, and of LANGUAGE.md what can be seen without reading. */
public final class FaceTest {
    private static final Due DUE = new Due("FaceTest");
    private static final String[] FACE = {
        "int water(int,int)", "int week(int,int,int)", "int now(int)", "int fountain(int)", "int of(int,int)",
        "int set(int,int,int)", "int turn(int,int)", "int as(int,int)", "int next()", "int days(int)",
        "int on(int,int)", "int then(int,int,int)", "int falls(int)", "int off(int)", "int quiet()",
        "int best(int)", "int high(int,int)", "int loved(int,int)", "int kind(int)", "int rain(int)",
        "int enough(int)", "int rule(int)", "int feed(int,int)", "int wipe()", "int town()",
        "int sheet(int,int,int)", "long write(int,int,long)", "int copy(int,int,int,int,int)", "int lays(int)",
        "int book(int)", "int read(int,int)", "int image()", "int undo()", "int tear()", "int count(int)",
        "int status(int)"};
    private static final String[] BARRED = {"throw", "throws", "try", "catch", "finally", "synchronized", "assert",
        "new Object", "->", "::", "Exact", "protected", "static \\{", "System\\.(?!arraycopy)", "Thread", "Random"};

    public static void main(String[] args) throws Exception {
        face();
        nothingElse();
        source();
        DUE.end();
    }

    private static void face() {
        List<String> due = new ArrayList<>(List.of(FACE));
        List<String> is = new ArrayList<>();
        for (Method method : NamedFountains.class.getDeclaredMethods()) {
            if (!Modifier.isPrivate(method.getModifiers())) {
                is.add(described(method));
                DUE.is(method.getName() + " is public and not static", method.getModifiers(), Modifier.PUBLIC);
            }
        }
        Collections.sort(due);
        Collections.sort(is);
        DUE.is("the face is " + is + ", due " + due, is.equals(due) ? 1 : 0, 1);
        Constructor<?>[] made = NamedFountains.class.getDeclaredConstructors();
        DUE.is("constructors", made.length, 1);
        DUE.is("constructor's parameters", made[0].getParameterCount(), 0);
        DUE.is("constructor is public", made[0].getModifiers(), Modifier.PUBLIC);
        DUE.is("class", NamedFountains.class.getModifiers(), Modifier.PUBLIC | Modifier.FINAL);
    }

    private static String described(Method method) {
        StringBuilder text = new StringBuilder(method.getReturnType() + " " + method.getName() + "(");
        for (Class<?> type : method.getParameterTypes()) {
            text.append(text.charAt(text.length() - 1) == '(' ? "" : ",").append(type);
        }
        return text.append(')').toString();
    }

    private static void nothingElse() {
        List<Class<?>> classes = new ArrayList<>(List.of(NamedFountains.class.getDeclaredClasses()));
        DUE.is("at most twelve classes", classes.size() <= 12 ? 1 : 0, 1);
        for (Field field : NamedFountains.class.getDeclaredFields()) {
            DUE.is(field.getName() + " is private", Modifier.isPrivate(field.getModifiers()) ? 1 : 0, 1);
        }
        List<String> names = new ArrayList<>();
        for (String method : FACE) {
            names.add(method.substring(method.indexOf(' ') + 1, method.indexOf('(')));
        }
        for (Class<?> inside : classes) {
            DUE.is(inside + " is static", Modifier.isStatic(inside.getModifiers()) ? 1 : 0, 1);
            DUE.is(inside + " is not public", Modifier.isPublic(inside.getModifiers()) ? 1 : 0, 0);
            for (Method method : inside.getDeclaredMethods()) {
                DUE.is(method + " has a name of its own", names.contains(method.getName()) ? 1 : 0, 0);
            }
        }
        for (Method method : NamedFountains.class.getDeclaredMethods()) {
            boolean hidden = Modifier.isPrivate(method.getModifiers());
            DUE.is(method + " has a name of its own", hidden && names.contains(method.getName()) ? 1 : 0, 0);
        }
    }

    /** .ci/run names the source; a run by hand without it asks nothing here. */
    private static void source() throws Exception {
        String path = System.getenv("NAMED_FOUNTAINS_SOURCE");
        if (path == null) {
            System.out.println("FaceTest: no NAMED_FOUNTAINS_SOURCE, so the source is not looked at");
            return;
        }
        String code = Files.readString(Path.of(path)).replaceAll("(?s)/\\*.*?\\*/", "").replaceAll("//[^\n]*", "");
        for (String barred : BARRED) {
            String edge = Character.isLetter(barred.charAt(0)) && !barred.equals("Exact") ? "\\b" : "";
            Matcher found = Pattern.compile(edge + barred + (edge.isEmpty() || barred.endsWith(")") ? "" : edge)).matcher(code);
            DUE.is("'" + barred + "' in the source", found.find() ? 1 : 0, 0);
        }
        DUE.is("signs are 1 to 127", code.chars().filter(c -> c < 1 || c > 127).count(), 0);
    }
}
