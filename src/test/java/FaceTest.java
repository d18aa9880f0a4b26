import java.lang.reflect.Constructor;
import java.lang.reflect.Field;
import java.lang.reflect.Method;
import java.lang.reflect.Modifier;
import java.nio.file.Files;
import java.util.ArrayList;
import java.util.Collections;
import java.util.List;
import java.util.regex.Matcher;
import java.util.regex.Pattern;

/** "The public face", as the document itself writes it down, and what its interface says ahead of the calls. */
public final class FaceTest {
    private static final Due DUE = new Due("FaceTest");
    private static final int CALLS = 36;

    public static void main(String[] args) throws Exception {
        List<String> face = Project.face();
        DUE.is("calls of the document's face", face.size(), CALLS);
        calls(face);
        constructor();
        nothingElse(face);
        headings(face);
        DUE.end();
    }

    private static void calls(List<String> face) {
        List<String> due = new ArrayList<>();
        for (String call : face) {
            due.add(call.replaceAll("(int|long) \\w+(?=[,)])", "$1").replace(" ,", ",").replace(", ", ","));
        }
        List<String> is = new ArrayList<>();
        for (Method method : NamedFountains.class.getDeclaredMethods()) {
            if (!Modifier.isPrivate(method.getModifiers())) {
                is.add(described(method));
                DUE.is(method.getName() + " is public and not static", method.getModifiers(), Modifier.PUBLIC);
            }
        }
        Collections.sort(due);
        Collections.sort(is);
        DUE.is("the face is " + is + ", due " + due, is.equals(due) ? 1 : 0, 1);
    }

    private static String described(Method method) {
        StringBuilder text = new StringBuilder(method.getReturnType() + " " + method.getName() + "(");
        for (Class<?> type : method.getParameterTypes()) {
            text.append(text.charAt(text.length() - 1) == '(' ? "" : ",").append(type);
        }
        return text.append(')').toString();
    }

    private static void constructor() {
        Constructor<?>[] made = NamedFountains.class.getDeclaredConstructors();
        DUE.is("constructors", made.length, 1);
        DUE.is("constructor's parameters", made[0].getParameterCount(), 0);
        DUE.is("constructor is public", made[0].getModifiers(), Modifier.PUBLIC);
        DUE.is("class", NamedFountains.class.getModifiers(), Modifier.PUBLIC | Modifier.FINAL);
    }

    private static void nothingElse(List<String> face) {
        for (Field field : NamedFountains.class.getDeclaredFields()) {
            DUE.is(field.getName() + " is private", Modifier.isPrivate(field.getModifiers()) ? 1 : 0, 1);
        }
        List<String> names = new ArrayList<>();
        for (String call : face) {
            names.add(Project.nameOf(call));
        }
        for (Class<?> inside : NamedFountains.class.getDeclaredClasses()) {
            DUE.is(inside + " is static", Modifier.isStatic(inside.getModifiers()) ? 1 : 0, 1);
            DUE.is(inside + " is not public", Modifier.isPublic(inside.getModifiers()) ? 1 : 0, 0);
            for (Method method : inside.getDeclaredMethods()) {
                DUE.is(method + " has a name of its own", names.contains(method.getName()) ? 1 : 0, 0);
            }
        }
        for (Method method : NamedFountains.class.getDeclaredMethods()) {
            boolean hidden = Modifier.isPrivate(method.getModifiers());
            DUE.is(method + " has a name of its own", hidden && names.contains(method.getName()) ? 1 : 0, 0);
        }
    }

    /** "Ahead of the calls .. the interface says: ---- ..": the class says so ahead of the same calls. */
    private static void headings(List<String> face) throws Exception {
        String source = Files.readString(Project.source());
        Matcher line = Pattern.compile("Ahead of the calls (.*?) the interface says: (---- .*?)\\.\n")
            .matcher(Files.readString(Project.document()));
        int named = 0;
        while (line.find()) {
            int from = source.indexOf("// " + line.group(2) + "\n");
            DUE.is("the class says " + line.group(2), from >= 0 ? 1 : 0, 1);
            int to = source.indexOf("// ----", from + 1);
            String under = from < 0 ? "" : source.substring(from, to < 0 ? source.length() : to);
            Matcher call = Pattern.compile("`(\\w+)`").matcher(line.group(1));
            while (call.find()) {
                named++;
                boolean stands = Pattern.compile("public (int|long) " + call.group(1) + "\\(").matcher(under).find();
                DUE.is(call.group(1) + " stands under " + line.group(2), stands ? 1 : 0, 1);
            }
        }
        DUE.is("calls that stand under a heading", named, face.size());
    }
}
