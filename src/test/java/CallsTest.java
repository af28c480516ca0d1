import java.io.File;
import java.io.PrintWriter;
import java.io.StringWriter;
import java.net.URISyntaxException;
import java.util.ArrayList;
import java.util.LinkedHashMap;
import java.util.LinkedHashSet;
import java.util.List;
import java.util.Map;
import java.util.Set;
import java.util.spi.ToolProvider;
import java.util.regex.Matcher;
import java.util.regex.Pattern;

/**
 * The rules of LANGUAGE.md on what methods call and make, read from the compiled class: the library
 * (rule 4), no throw (6), no recursion (8), calls at most eight deep (11), and what README.md says,
 * that no call makes an object (12).
 */
public final class CallsTest {
    private static final int DEEPEST = 8;
    private static final Set<String> LIBRARY = Set.of("java/lang/Object.<init>()V",
            "java/util/Arrays.fill([II)V", "java/lang/System.arraycopy(Ljava/lang/Object;ILjava/lang/Object;II)V",
            "java/lang/Math.min(II)I", "java/lang/Math.max(II)I", "java/lang/Integer.bitCount(I)I",
            "java/lang/String.length()I", "java/lang/String.charAt(I)C");
    private static final Pattern CLASS = Pattern.compile("^[\\w ]*class ([\\w$]+)");
    private static final Pattern METHOD = Pattern.compile("^  (?:[\\w$.\\[\\]]+ )*([\\w$]+)\\(.*\\);$");
    private static final Pattern DESCRIPTOR = Pattern.compile("^    descriptor: (\\(.*)$");
    private static final Pattern ORDER = Pattern.compile("^ +\\d+: (\\w+)(.*)$");
    private static final Pattern CALLED = Pattern.compile("// (?:Interface)?Method (\\S+?):(\\S+)$");

    private static final Due DUE = new Due();
    /** Each method of the class, by class, name and descriptor, with all that it calls. */
    private static final Map<String, Set<String>> CALLS = new LinkedHashMap<>();
    private static final Map<String, Integer> DEPTHS = new LinkedHashMap<>();

    private CallsTest() {
    }

    public static void main(String[] args) throws URISyntaxException {
        readOrders(disassembled());
        DUE.part("library");
        for (Map.Entry<String, Set<String>> method : CALLS.entrySet()) {
            for (String called : method.getValue()) {
                due(method.getKey() + " calls " + called, CALLS.containsKey(called) || LIBRARY.contains(called));
            }
        }
        DUE.part("depth");
        for (String method : CALLS.keySet()) {
            int depth = depthOf(method, new ArrayList<>());
            due(method + " is " + depth + " calls deep", depth <= DEEPEST);
        }
        due("methods are found", CALLS.size() > 100 && DEPTHS.getOrDefault("FeatherVotes.text()I", 0) > 4);
        DUE.end();
    }

    private static void due(String what, boolean is) {
        DUE.is(what, is ? 1 : 0, 1);
    }

    private static void never(boolean is, String what) {
        if (is) {
            DUE.fail(what);
        }
    }

    private static String disassembled() throws URISyntaxException {
        List<String> arguments = new ArrayList<>(List.of("-p", "-c", "-s", "-cp"));
        arguments.add(new File(FeatherVotes.class.getResource("FeatherVotes.class").toURI()).getParent());
        arguments.add("FeatherVotes");
        for (Class<?> inside : FeatherVotes.class.getDeclaredClasses()) {
            arguments.add(inside.getName());
        }
        StringWriter text = new StringWriter();
        PrintWriter out = new PrintWriter(text);
        ToolProvider javap = ToolProvider.findFirst("javap").orElseThrow();
        due("javap reads the class", javap.run(out, out, arguments.toArray(new String[0])) == 0);
        out.flush();
        return text.toString();
    }

    private static void readOrders(String text) {
        DUE.part("orders");
        String inClass = "";
        String name = "";
        String method = "";
        for (String line : text.split("\\R")) {
            Matcher m = CLASS.matcher(line);
            if (m.find()) {
                inClass = m.group(1);
            } else if ((m = METHOD.matcher(line)).find()) {
                name = m.group(1).equals(inClass) ? "<init>" : m.group(1);
            } else if (line.equals("  static {};")) {
                name = "<clinit>";
            } else if (!name.isEmpty() && (m = DESCRIPTOR.matcher(line)).find()) {
                method = inClass + "." + name + m.group(1);
                name = "";
                CALLS.put(method, new LinkedHashSet<>());
            } else if (!method.isEmpty() && (m = ORDER.matcher(line)).find()) {
                readOrder(method, inClass, m.group(1), m.group(2));
            }
            never(line.contains("Exception table"), method + " catches something");
        }
    }

    private static void readOrder(String method, String inClass, String order, String rest) {
        boolean inConstructor = method.contains(".<init>") || method.contains(".<clinit>");
        boolean makes = order.equals("new") || order.endsWith("newarray");
        never(order.equals("athrow"), method + " throws");
        never(order.equals("checkcast"), method + " casts");
        never(order.equals("invokedynamic"), method + " hands out code");
        never(makes && !inConstructor, method + " makes an object");
        Matcher m = CALLED.matcher(rest);
        if (order.startsWith("invoke") && m.find()) {
            String called = m.group(1).replace("\"", "");
            CALLS.get(method).add((called.contains(".") ? called : inClass + "." + called) + m.group(2));
        }
    }

    /** How many calls stand open at once, the method's own and the library's among them. */
    private static int depthOf(String method, List<String> open) {
        if (open.contains(method)) {
            DUE.fail(method + " comes back to itself by " + open);
            return 0;
        }
        if (!DEPTHS.containsKey(method)) {
            open.add(method);
            int deepest = 0;
            for (String called : CALLS.getOrDefault(method, Set.of())) {
                deepest = Math.max(deepest, depthOf(called, open));
            }
            open.remove(method);
            DEPTHS.put(method, deepest + 1);
        }
        return DEPTHS.get(method);
    }
}
