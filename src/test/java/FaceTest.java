import java.io.IOException;
import java.lang.reflect.Constructor;
import java.lang.reflect.Field;
import java.lang.reflect.Method;
import java.lang.reflect.Modifier;
import java.nio.file.Files;
import java.nio.file.Path;
import java.util.Set;
import java.util.TreeSet;
import java.util.regex.Matcher;
import java.util.regex.Pattern;

/** The face is the document's, and the file keeps to what LANGUAGE.md leaves, as far as words show it. */
public final class FaceTest {
    private static final Due due = new Due();
    private static final Path DOC = Path.of("../shared/DOC.md");
    private static final Path SOURCE = Path.of("src/main/java/BreakTime.java");

    public static void main(String[] args) throws IOException {
        face();
        classesInside();
        words();
        due.end();
    }

    private static void face() throws IOException {
        Set<String> told = new TreeSet<>();
        Pattern line = Pattern.compile("(?m)^    public (\\w+) (\\w+)\\((.*)\\);$");
        Matcher m = line.matcher(Files.readString(DOC));
        while (m.find()) {
            String types = m.group(3).replaceAll("(int|long) \\w+", "$1").replace(" ", "");
            told.add(m.group(1) + " " + m.group(2) + "(" + types + ")");
        }
        due.is("methods in the document", told.size(), 39);
        Set<String> made = new TreeSet<>();
        for (Method method : BreakTime.class.getDeclaredMethods()) {
            if (Modifier.isPublic(method.getModifiers())) {
                made.add(signature(method));
            } else {
                due.holds(method + " is private", Modifier.isPrivate(method.getModifiers()));
                due.holds(method + " has a name of its own", told.stream().noneMatch(
                        s -> s.contains(" " + method.getName() + "(")));
            }
        }
        due.same("the face", made.toString(), told.toString());
        due.is("public and final", BreakTime.class.getModifiers(), Modifier.PUBLIC | Modifier.FINAL);
        for (Field field : BreakTime.class.getDeclaredFields()) {
            due.holds(field + " is private", Modifier.isPrivate(field.getModifiers()));
        }
        Constructor<?>[] constructors = BreakTime.class.getDeclaredConstructors();
        due.is("constructors", constructors.length, 1);
        due.is("the constructor is public", constructors[0].getModifiers(), Modifier.PUBLIC);
    }

    private static String signature(Method method) {
        StringBuilder types = new StringBuilder();
        for (Class<?> type : method.getParameterTypes()) {
            types.append(types.length() > 0 ? "," : "").append(type.getName());
        }
        return method.getReturnType().getName() + " " + method.getName() + "(" + types + ")";
    }

    private static void classesInside() {
        Class<?>[] inside = BreakTime.class.getDeclaredClasses();
        due.holds("some twelve classes at most", inside.length <= 12);
        for (Class<?> one : inside) {
            int modifiers = one.getModifiers();
            due.holds(one + " is static", Modifier.isStatic(modifiers));
            due.holds(one + " is not public", !Modifier.isPublic(modifiers) && !Modifier.isProtected(modifiers));
            int own = 0;
            for (Field field : one.getDeclaredFields()) {
                boolean isStatic = Modifier.isStatic(field.getModifiers());
                due.holds(field + " is final if static", !isStatic || Modifier.isFinal(field.getModifiers()));
                own += isStatic ? 0 : 1;
            }
            due.holds(one + " has some twenty fields at most", own <= 20);
        }
    }

    private static void words() throws IOException {
        String code = Files.readString(SOURCE).replaceAll("(?s)/\\*.*?\\*/", "").replaceAll("//[^\n]*", "")
                .replaceAll("\"[^\"]*\"", "\"\"");
        String[] never = {
            "\\bthrow", "\\btry\\b", "\\bcatch\\b", "\\bsynchronized\\b", "\\bassert\\b", "->", "::", "Exact\\b",
            "\\bpackage\\b", "System\\.(?!arraycopy)", "Arrays\\.(?!fill|copyOf)", "\\bRandom\\b", "\\bThread\\b",
            "\"\"\\s*\\+", "\\+\\s*\"\"", "String\\.(?!length)", "\\bequals\\b", "\\bhashCode\\b", "\\btoString\\b",
            "\\bnew ArrayList", "\\bclone\\b", "static \\{"
        };
        for (String word : never) {
            Matcher m = Pattern.compile(word).matcher(code);
            due.holds("the file is without " + word, !m.find());
        }
        due.same("what is imported", code.replaceAll("(?s).*?import ([\\w.*]+);.*", "$1"), "java.util.Arrays");
        due.is("imports", code.split("\\bimport\\b", -1).length - 1, 1);
        due.holds("signs are plain", code.chars().allMatch(c -> c < 128));
    }
}
