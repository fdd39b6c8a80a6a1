import java.lang.reflect.Constructor;
import java.lang.reflect.Field;
import java.lang.reflect.Method;
import java.lang.reflect.Modifier;
import java.nio.file.Files;
import java.nio.file.Path;
import java.util.ArrayList;
import java.util.List;
import java.util.Set;
import java.util.TreeSet;
import java.util.regex.Matcher;
import java.util.regex.Pattern;

/** The face is the document's, and the source keeps to what can be seen of the language's rules. */
public final class FaceTest {
    private static final Check CHECK = new Check();

    public static void main(String[] args) throws Exception {
        faceIsTheDocuments();
        nothingElseCanBeSeen();
        sourceKeepsToTheRules();
        CHECK.end();
    }

    private static String signature(Method m) {
        StringBuilder text = new StringBuilder(m.getReturnType().getName() + " " + m.getName() + "(");
        for (int i = 0; i < m.getParameterCount(); i++) {
            text.append(i == 0 ? "" : ", ").append(m.getParameterTypes()[i].getName());
        }
        text.append(")");
        for (Class<?> e : m.getExceptionTypes()) {
            text.append(" ").append(e.getSimpleName());
        }
        return text.toString();
    }

    private static void faceIsTheDocuments() throws Exception {
        Set<String> wanted = new TreeSet<>();
        String document = Files.readString(Path.of("../shared/DOC.md"));
        Matcher m = Pattern.compile("    public (int|long|double) (\\w+)\\((.*?)\\)(?: throws (.*))?;").matcher(document);
        while (m.find()) {
            String types = m.group(3).replaceAll("(int|long) \\w+", "$1");
            String thrown = m.group(4) == null ? "" : " " + m.group(4).replace(", ", " ");
            wanted.add(m.group(1) + " " + m.group(2) + "(" + types + ")" + thrown);
        }
        Set<String> got = new TreeSet<>();
        for (Method method : LendingPool.class.getDeclaredMethods()) {
            if (Modifier.isPublic(method.getModifiers())) {
                got.add(signature(method));
            }
        }
        CHECK.due("the number of methods", wanted.size(), 54);
        CHECK.due("the methods", got, wanted);
        CHECK.due("final", Modifier.isFinal(LendingPool.class.getModifiers()), true);
    }

    private static void nothingElseCanBeSeen() {
        List<String> seen = new ArrayList<>();
        Set<String> names = new TreeSet<>();
        for (Method m : LendingPool.class.getDeclaredMethods()) {
            if (Modifier.isPublic(m.getModifiers())) {
                names.add(m.getName());
            } else if (!Modifier.isPrivate(m.getModifiers())) {
                seen.add(m.getName());
            }
        }
        for (Field f : LendingPool.class.getDeclaredFields()) {
            if (!Modifier.isPrivate(f.getModifiers()) && !f.getName().equals("NONE")) {
                seen.add(f.getName());
            }
        }
        for (Constructor<?> c : LendingPool.class.getDeclaredConstructors()) {
            CHECK.due("parameters of the constructor", c.getParameterCount(), 0);
        }
        for (Class<?> c : LendingPool.class.getDeclaredClasses()) {
            for (Method m : c.getDeclaredMethods()) {
                if (names.contains(m.getName())) {
                    seen.add(c.getName() + "." + m.getName());
                }
            }
            CHECK.due(c.getName() + " is static", Modifier.isStatic(c.getModifiers()), true);
        }
        CHECK.due("what else is seen", seen, List.of());
        CHECK.due("at most twelve classes", LendingPool.class.getDeclaredClasses().length < 12, true);
    }

    private static void sourceKeepsToTheRules() throws Exception {
        String source = Files.readString(Path.of("src/main/java/LendingPool.java"));
        String code = source.replaceAll("(?s)/\\*.*?\\*/", "").replaceAll("//[^\n]*", "");
        for (String word : List.of("catch", "finally", "->", "::", "Exact(", "assert ", "synchronized", "instanceof",
            "package ", "System.out", "toString", "hashCode", "static {", "new int[][]", "Math.sqrt", "Object")) {
            CHECK.due("'" + word + "' in the source", code.contains(word), false);
        }
        Set<String> library = new TreeSet<>();
        Matcher used = Pattern.compile("\\b(?:Arrays|System|Math|Integer|Long|String|Character|Objects|List)\\.\\w+").matcher(code);
        while (used.find()) {
            library.add(used.group());
        }
        library.removeAll(Set.of("Arrays.fill", "System.arraycopy", "Math.max", "Math.min"));
        CHECK.due("what rule 4 does not list", library, Set.of());
        int longest = 0;
        Matcher m = Pattern.compile("(?m)^( {4}| {8})(?:public|private|static|int|long|double|boolean|void|Loan)[^;=\n]*\\("
            + "(?s:.*?)^\\1\\}").matcher(source);
        while (m.find()) {
            longest = Math.max(longest, m.group().split("\n").length);
        }
        CHECK.due("the longest method has at most sixty lines, " + longest, longest > 10 && longest <= 60, true);
    }
}
