import java.io.IOException;
import java.lang.reflect.Constructor;
import java.lang.reflect.Field;
import java.lang.reflect.Method;
import java.lang.reflect.Modifier;
import java.nio.file.Files;
import java.nio.file.Path;
import java.util.ArrayList;
import java.util.List;
import java.util.Set;
import java.util.TreeSet;
import java.util.regex.Matcher;
import java.util.regex.Pattern;

/** The rules of LANGUAGE.md that can be seen from outside, and the document's face. */
public final class RulesTest {
    private static final Path SOURCE = Path.of("src/main/java/FeatherVotes.java");
    private static final Path DOCUMENT = Path.of("../shared/DOC.md");
    private static final Due DUE = new Due();

    private RulesTest() {
    }

    public static void main(String[] args) throws IOException {
        String code = withoutCommentsAndTexts(Files.readString(SOURCE));
        theFace(Files.readString(DOCUMENT));
        theMembers();
        theWords(code);
        theMethods(code);
        DUE.end();
    }

    private static void due(String what, boolean is) {
        DUE.is(what, is ? 1 : 0, 1);
    }

    private static void theFace(String document) {
        DUE.part("face");
        String face = document.substring(document.indexOf("public final class FeatherVotes {"));
        face = face.substring(0, face.indexOf("```"));
        Set<String> want = new TreeSet<>();
        Matcher m = Pattern.compile("public (int|long) (\\w+)\\(([^)]*)\\);").matcher(face);
        while (m.find()) {
            int parameters = m.group(3).isBlank() ? 0 : m.group(3).split(",").length;
            want.add(m.group(1) + " " + m.group(2) + " " + parameters);
        }
        Set<String> got = new TreeSet<>();
        for (Method method : FeatherVotes.class.getDeclaredMethods()) {
            if (!Modifier.isPrivate(method.getModifiers())) {
                due(method.getName() + " is public, of an object", method.getModifiers() == Modifier.PUBLIC);
                got.add(method.getReturnType() + " " + method.getName() + " " + method.getParameterCount());
            }
            for (Class<?> type : method.getParameterTypes()) {
                boolean isPublic = Modifier.isPublic(method.getModifiers());
                due(method.getName() + " takes ints", !isPublic || type == int.class);
            }
        }
        due("methods " + got + " are " + want, got.equals(want) && want.size() == 48 - 1);
        Constructor<?>[] constructors = FeatherVotes.class.getDeclaredConstructors();
        due("one constructor, public, of nothing", constructors.length == 1
                && constructors[0].getModifiers() == Modifier.PUBLIC && constructors[0].getParameterCount() == 0);
        due("public and final", FeatherVotes.class.getModifiers() == (Modifier.PUBLIC | Modifier.FINAL));
    }

    private static void theMembers() {
        DUE.part("members");
        List<Class<?>> classes = new ArrayList<>(List.of(FeatherVotes.class.getDeclaredClasses()));
        for (Class<?> inside : classes) {
            due(inside + " is static", Modifier.isStatic(inside.getModifiers()));
            due(inside + " is not public", (inside.getModifiers() & (Modifier.PUBLIC | Modifier.PROTECTED)) == 0);
            due(inside + " has no class inside", inside.getDeclaredClasses().length == 0);
        }
        for (Field field : FeatherVotes.class.getDeclaredFields()) {
            due(field + " is private", Modifier.isPrivate(field.getModifiers()));
        }
        classes.add(FeatherVotes.class);
        due("at most twelve classes", classes.size() <= 12);
        Set<String> face = new TreeSet<>();
        for (Method method : FeatherVotes.class.getMethods()) {
            face.add(method.getName());
        }
        for (Class<?> one : classes) {
            int fields = 0;
            for (Field field : one.getDeclaredFields()) {
                fields += Modifier.isStatic(field.getModifiers()) ? 0 : 1;
                due(field + " is final, if static", !Modifier.isStatic(field.getModifiers())
                        || Modifier.isFinal(field.getModifiers()));
            }
            due(one + " has at most twenty fields", fields <= 20);
            for (Method method : one.getDeclaredMethods()) {
                boolean isFace = one == FeatherVotes.class && Modifier.isPublic(method.getModifiers());
                due(method + " has no name of the face", isFace || !face.contains(method.getName()));
                due(method + " has at most seven parameters", method.getParameterCount() <= 7);
            }
        }
    }

    private static void theWords(String code) {
        DUE.part("words");
        String[] never = {"throw", "throws", "try", "catch", "finally", "synchronized", "assert", "protected", "hashCode",
            "toString", "volatile", "native", "Object", "Exception", "Thread", "Random"};
        for (String word : never) {
            due("no " + word, !Pattern.compile("\\b" + word + "\\b").matcher(code).find());
        }
        String[] signs = {"->", "::", "Exact(", "System.in", "System.out", "System.nano", "System.current", "static {"};
        for (String sign : signs) {
            due("no " + sign, !code.contains(sign));
        }
        Matcher imports = Pattern.compile("import ([^;]*);").matcher(code);
        while (imports.find()) {
            due("import " + imports.group(1), Set.of("java.util.Arrays", "java.util.ArrayList", "java.util.List")
                    .contains(imports.group(1)));
        }
        due("no package", !Pattern.compile("(?m)^package").matcher(code).find());
    }

    /** Methods stand at a depth of one or two braces; each is short, and only constructors make objects. */
    private static void theMethods(String code) {
        DUE.part("methods");
        String[] lines = code.split("\n", -1);
        Pattern head = Pattern.compile("^(    |        )(?=\\S)[\\w<>\\[\\] ]*?(\\w+)\\([^;=]*\\) \\{$");
        int methods = 0;
        for (int i = 0; i < lines.length; i++) {
            Matcher m = head.matcher(joined(lines, i));
            if (!m.find()) {
                continue;
            }
            String end = m.group(1) + "}";
            int last = i;
            StringBuilder body = new StringBuilder();
            while (last < lines.length && !lines[last].equals(end)) {
                body.append(lines[last]).append('\n');
                last++;
            }
            methods++;
            String name = m.group(2);
            due(name + " has " + (last - i) + " lines", last - i <= 60);
            due(name + " makes no object", Character.isUpperCase(name.charAt(0)) || !body.toString().contains("new "));
            i = last;
        }
        due("methods are found", methods > 100);
    }

    /** A method's head may go on in the next line. */
    private static String joined(String[] lines, int i) {
        boolean open = lines[i].contains("(") && !lines[i].contains(")") && i + 1 < lines.length;
        return open ? lines[i] + " " + lines[i + 1].strip() : lines[i];
    }

    private static String withoutCommentsAndTexts(String source) {
        return source.replaceAll("(?s)/\\*.*?\\*/", "").replaceAll("//[^\n]*", "").replaceAll("\"[^\"\n]*\"", "\"\"");
    }
}
