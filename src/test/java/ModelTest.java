import java.lang.reflect.InvocationTargetException;
import java.lang.reflect.Method;
import java.util.ArrayList;
import java.util.List;
import java.util.Random;
import java.util.stream.IntStream;

/** Runs of calls by chance (the same each time), each call compared with the plain model. */
public final class ModelTest {
    private static final int RUNS = 1500;
    private static final int CALLS = 512;
    private static final String[] ITEM_WORDS = {"bird", "swan", "crow", "raven", "tern", "wren", "gull", "motion", "season"};
    private static final String[] WORDS = {"has", "keeps", "grows", "quorum", "wants", "effect", "bird", "motion", "season", ";"};
    private static final int[] FAR = {-2, -1, 41, 100, 256, 1000, Integer.MIN_VALUE, Integer.MAX_VALUE, -1000001};

    private final int run;
    private final Random chance;
    private final FeatherVotes real = new FeatherVotes();
    private final Model model = new Model();
    private final List<String> told = new ArrayList<>();
    private boolean right = true;

    private ModelTest(int run) {
        this.run = run;
        chance = new Random(run);
    }

    public static void main(String[] args) {
        Method[] methods = FeatherVotes.class.getDeclaredMethods();
        List<Method> calls = new ArrayList<>();
        for (Method m : methods) {
            if (java.lang.reflect.Modifier.isPublic(m.getModifiers())) {
                calls.add(m);
            }
        }
        calls.sort((a, b) -> a.getName().compareTo(b.getName()));
        List<ModelTest> wrong = IntStream.range(0, RUNS).parallel().mapToObj(ModelTest::new)
                .filter(test -> !test.isRight(calls)).toList();
        for (ModelTest test : wrong.subList(0, Math.min(3, wrong.size()))) {
            System.out.println("run " + test.run + ":");
            test.told.forEach(System.out::println);
        }
        System.out.println(RUNS + " runs, " + wrong.size() + " not as the model's");
        if (!wrong.isEmpty()) {
            System.exit(1);
        }
    }

    private boolean isRight(List<Method> calls) {
        if (chance.nextInt(4) > 0) {
            begin(calls);
        }
        while (right && told.size() < CALLS) {
            Method m = calls.get(chance.nextInt(calls.size()));
            if (m.getName().equals("text") && chance.nextInt(8) > 0) {
                feedText(calls);
            }
            // Else the tape would be full of noise when a text comes.
            boolean noise = m.getName().equals("feed") && chance.nextInt(4) > 0;
            if (!noise && told.size() < CALLS) {
                compare(m, arguments(m));
            }
        }
        return right;
    }

    private static Method find(List<Method> calls, String name) {
        return calls.stream().filter(m -> m.getName().equals(name)).findFirst().get();
    }

    private void begin(List<Method> calls) {
        int birds = chance.nextInt(9);
        for (int b = 0; b < birds; b++) {
            compare(find(calls, "bird"), chance.nextInt(7));
            for (int what = 3; what <= 6; what++) {
                compare(find(calls, "change"), b, what, chance.nextInt(chance.nextBoolean() ? 5 : 30));
            }
            compare(find(calls, "change"), b, 1, chance.nextInt(20));
        }
        int motions = chance.nextInt(9);
        for (int m = 0; m < motions; m++) {
            compare(find(calls, "motion"), chance.nextInt(4));
            compare(find(calls, "tell"), m, 2, chance.nextInt(1 << birds));
            compare(find(calls, "tell"), m, 3, chance.nextInt(5));
        }
    }

    private void compare(Method m, int... a) {
        if (!right || told.size() >= CALLS) {
            return;
        }
        Object[] boxed = new Object[a.length];
        StringBuilder call = new StringBuilder(m.getName());
        for (int i = 0; i < a.length; i++) {
            boxed[i] = a[i];
            call.append(' ').append(a[i]);
        }
        long due = model.call(m.getName(), a);
        try {
            long got = ((Number) m.invoke(real, boxed)).longValue();
            right = got == due;
            told.add(call + ": " + got + (right ? "" : ", due is " + due));
        } catch (InvocationTargetException e) {
            right = false;
            told.add(call + ": " + e.getCause() + ", due is " + due);
        } catch (IllegalAccessException e) {
            throw new IllegalStateException(e);
        }
    }

    private int[] arguments(Method m) {
        int[] a = new int[m.getParameterCount()];
        for (int i = 0; i < a.length; i++) {
            int sort = chance.nextInt(40);
            a[i] = sort == 0 ? FAR[chance.nextInt(FAR.length)]
                    : sort < 4 ? chance.nextInt(12) - 1
                    : sort < 6 ? chance.nextInt(300)
                    : chance.nextInt(usual(m.getName(), i));
        }
        if (m.getName().equals("sheet") && chance.nextInt(8) > 0) {
            a[1] = new int[] {8, 8, 8, 16, 32, 0}[chance.nextInt(6)];
        }
        if ((m.getName().equals("write") || m.getName().equals("seed")) && chance.nextInt(6) == 0) {
            a[a.length - 1] = chance.nextInt();
        }
        return a;
    }

    /** So many values, from 0 on, are usual for an argument. */
    private int usual(String name, int i) {
        switch (name) {
            case "bird": case "as":
                return 7;
            case "motion": case "wind":
                return i == 2 ? 2 : i == 1 ? 11 : 4;
            case "of": case "now": case "count":
                return i == 0 && name.equals("of") ? 6 : 8;
            case "change":
                return i == 0 ? 6 : i == 1 ? 7 : 7;
            case "tell":
                return i == 0 ? 5 : i == 1 ? 5 : 16;
            case "side":
                return i == 0 ? 5 : 2;
            case "seasons": case "years":
                return chance.nextInt(3) == 0 ? 41 : 4;
            case "agenda": case "ways": case "left": case "ith":
                return i == 1 ? 4 : 64;
            case "fits": case "stolen": case "load": case "judge": case "write":
                return i == 0 ? 4 : i == 1 ? 3 : 4;
            case "sheet":
                return i == 2 ? 5 : 4;
            case "copy":
                return 4;
            default:
                return 6;
        }
    }

    private void feedText(List<Method> calls) {
        if (chance.nextInt(3) > 0) {
            compare(find(calls, "wipe"));
        }
        String text = makeText();
        for (int i = 0; i < text.length(); i += 4) {
            int n = Math.min(4, text.length() - i);
            int bytes = 0;
            for (int k = 0; k < n; k++) {
                bytes = bytes << 8 | text.charAt(i + k);
            }
            compare(find(calls, "feed"), bytes, n);
        }
    }

    private String makeText() {
        StringBuilder text = new StringBuilder();
        int items = 1 + chance.nextInt(4);
        for (int i = 0; i < items; i++) {
            text.append(i == 0 ? "" : blanks() + ";" + blanks());
            addItem(text);
        }
        if (chance.nextInt(5) == 0) {
            text.insert(chance.nextInt(text.length() + 1), blanks() + WORDS[chance.nextInt(WORDS.length)] + blanks());
        }
        if (chance.nextInt(5) == 0) {
            text.setCharAt(chance.nextInt(text.length()), (char) chance.nextInt(chance.nextBoolean() ? 128 : 256));
        }
        if (chance.nextInt(6) == 0) {
            text.setLength(chance.nextInt(text.length() + 1));
        }
        return text.toString();
    }

    private void addItem(StringBuilder text) {
        String word = ITEM_WORDS[chance.nextInt(ITEM_WORDS.length)];
        text.append(word);
        if (word.equals("season")) {
            addNumber(text, 1005);
        } else if (word.equals("motion")) {
            addNumber(text, 4);
            addFeature(text, "quorum", 20);
            addFeature(text, "wants", 8);
            addFeature(text, "effect", 5);
        } else {
            int numbers = chance.nextInt(6);
            text.append(numbers == 0 ? "" : " has");
            for (int n = 0; n < Math.min(numbers, chance.nextInt(10) == 0 ? 5 : 4); n++) {
                addNumber(text, 20);
            }
            addFeature(text, "keeps", 20);
            addFeature(text, "grows", 10);
        }
    }

    private void addFeature(StringBuilder text, String word, int most) {
        if (chance.nextInt(3) == 0) {
            text.append(' ').append(blanks()).append(word);
            addNumber(text, most);
        }
    }

    private void addNumber(StringBuilder text, int most) {
        text.append(' ').append(chance.nextInt(12) == 0 ? "0" : "");
        text.append(chance.nextInt(chance.nextInt(25) == 0 ? 10 * most : most));
    }

    private String blanks() {
        return "  ".substring(chance.nextInt(3));
    }
}
