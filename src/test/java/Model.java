import java.math.BigInteger;
import java.util.ArrayList;
import java.util.Arrays;
import java.util.List;
import java.util.Map;
import java.util.TreeMap;
import java.util.regex.Matcher;
import java.util.regex.Pattern;

/**
 * The document once more, in the slowest and plainest way, to compare the class with. It shares
 * nothing with it: findings are exceptions, kinds are found by name, texts by patterns, and
 * whatever would be is tried on a whole copy.
 */
final class Model {
    private static final List<String> NAMES = List.of("bird", "swan", "crow", "raven", "tern", "wren", "gull");
    private static final Map<String, String> UNDER = Map.of("swan", "bird", "crow", "bird", "wren", "bird",
            "raven", "crow", "tern", "raven", "gull", "wren");
    private static final Pattern TOKEN = Pattern.compile("[a-z]+|[0-9]+|;|[^ ]");

    static final class Finding extends RuntimeException {
        private static final long serialVersionUID = 1L;
        final int which;

        Finding(int which) {
            this.which = which;
        }
    }

    /** A text that can't be read, from this byte on. */
    private static final class Fault extends RuntimeException {
        private static final long serialVersionUID = 1L;
        final int place;

        Fault(int place) {
            this.place = place;
        }
    }

    private static final class Bird {
        String kind = "bird";
        int keeps = 2;
        int grows = 1;
        int[] feathers = new int[4];

        Bird twin() {
            Bird b = new Bird();
            b.kind = kind;
            b.keeps = keeps;
            b.grows = grows;
            b.feathers = feathers.clone();
            return b;
        }

        int all() {
            return Arrays.stream(feathers).sum();
        }

        boolean is(String asked) {
            for (String k = kind; k != null; k = UNDER.get(k)) {
                if (k.equals(asked)) {
                    return true;
                }
            }
            return false;
        }
    }

    private static final class World {
        List<Bird> birds = new ArrayList<>();
        /** Colour, quorum, wants, effect, law. */
        List<int[]> motions = new ArrayList<>();
        int[] foot = new int[4];
        Map<Integer, Integer> spots = new TreeMap<>();
        int season = 0;
        int z = 1;

        World twin() {
            World w = new World();
            birds.forEach(b -> w.birds.add(b.twin()));
            motions.forEach(m -> w.motions.add(m.clone()));
            w.foot = foot.clone();
            w.spots = new TreeMap<>(spots);
            w.season = season;
            w.z = z;
            return w;
        }

        int drop(int bird, int motion) {
            int[] m = motions.get(motion);
            return Math.min(birds.get(bird).feathers[m[0]], wish(bird, birds.get(bird).kind, m));
        }

        private int wish(int bird, String kind, int[] m) {
            Bird b = birds.get(bird);
            switch (kind) {
                case "bird":
                    return 1;
                case "swan":
                    return m[0] == 0 ? 1 : 0;
                case "crow":
                    int others = 0;
                    for (int o = 0; o < birds.size(); o++) {
                        boolean same = (m[2] >> o & 1) == (m[2] >> bird & 1);
                        others += o != bird && same && birds.get(o).is("crow") ? 1 : 0;
                    }
                    return wish(bird, "bird", m) + others;
                case "raven":
                    return 2 * wish(bird, "crow", m);
                case "tern":
                    return wish(bird, "raven", m) + 1;
                case "wren":
                    return b.all() - 1 >= b.keeps ? 1 : 0;
                default:
                    return wish(bird, "wren", m) + (m[2] == 0 ? 1 : 0);
            }
        }

        int dropped(int motion, int side) {
            int sum = 0;
            for (int b = 0; b < birds.size(); b++) {
                sum += (motions.get(motion)[2] >> b & 1) == side ? drop(b, motion) : 0;
            }
            return sum;
        }

        boolean passes(int motion) {
            int pro = dropped(motion, 1);
            int con = dropped(motion, 0);
            return pro > con && pro + con >= motions.get(motion)[1];
        }

        boolean vote(int motion) {
            boolean passed = passes(motion);
            int[] m = motions.get(motion);
            int[] falling = new int[birds.size()];
            for (int b = 0; b < birds.size(); b++) {
                falling[b] = drop(b, motion);
            }
            for (int b = 0; b < birds.size(); b++) {
                birds.get(b).feathers[m[0]] -= falling[b];
                foot[m[0]] = Math.min(9999, foot[m[0]] + falling[b]);
            }
            if (passed && m[4] == 0) {
                m[4] = 1;
                for (Bird b : birds) {
                    b.grows = Math.max(0, Math.min(9, b.grows + (m[3] == 1 ? 1 : m[3] == 2 ? -1 : 0)));
                    b.keeps = Math.max(0, Math.min(99, b.keeps + (m[3] == 3 ? 1 : m[3] == 4 ? -1 : 0)));
                }
            }
            return passed;
        }

        int votes(List<Integer> row) {
            int passed = 0;
            for (int m : row) {
                passed += vote(m) ? 1 : 0;
            }
            return passed;
        }

        void pass() {
            for (Bird b : birds) {
                b.feathers[season % 4] = Math.min(99, b.feathers[season % 4] + b.grows);
            }
            season++;
        }

        int feathers() {
            return birds.stream().mapToInt(Bird::all).sum();
        }

        int flyers() {
            int set = 0;
            for (int b = 0; b < birds.size(); b++) {
                set += birds.get(b).all() >= birds.get(b).keeps ? 1 << b : 0;
            }
            return set;
        }

        int laws() {
            int set = 0;
            for (int m = 0; m < motions.size(); m++) {
                set += motions.get(m)[4] << m;
            }
            return set;
        }
    }

    private World now = new World();
    private World image = null;
    private StringBuilder tape = new StringBuilder();
    private final long[][] sheets = new long[4][];
    private final int[] bits = new int[4];
    private final int[] found = new int[7];

    /** What a call answers. */
    long call(String name, int... a) {
        try {
            return answer(name, a);
        } catch (Finding f) {
            found[-1000001 - f.which]++;
            return f.which;
        }
    }

    private static void ask(boolean right, int finding) {
        if (!right) {
            throw new Finding(finding);
        }
    }

    private static boolean among(int v, int least, int most) {
        return least <= v && v <= most;
    }

    private void askBird(int b) {
        ask(among(b, 0, now.birds.size() - 1), Due.BEYOND);
    }

    private void askMotion(int m) {
        ask(among(m, 0, now.motions.size() - 1), Due.BEYOND);
    }

    private void askSheet(int s) {
        ask(among(s, 0, 3), Due.BEYOND);
        ask(sheets[s] != null, Due.MISSING);
    }

    private long answer(String name, int[] a) {
        switch (name) {
            case "bird": case "of": case "change": case "motion": case "told": case "tell":
                return answerOfBirdsAndMotions(name, a);
            case "drops": case "side": case "passes": case "vote": case "seasons": case "now": case "clears":
                return answerOfVotes(name, a);
            case "when": case "flies": case "plucked": case "hinges": case "sets": case "power": case "won":
            case "colour": case "kindFor": case "quorum":
                return answerOfWhatWillBe(name, a);
            case "agenda": case "ith": case "ways": case "left":
                return answerOfAgendas(name, a);
            case "wind": case "fits": case "stolen": case "years": case "seed":
                return answerOfOddsAndDraws(name, a);
            case "feed": case "wipe": case "text": case "hold": case "as":
                return answerOfTextsAndSpots(name, a);
            case "sheet": case "write": case "copy": case "load": case "judge":
                return answerOfSheets(name, a);
            default:
                return answerOfImages(name, a);
        }
    }

    private long answerOfBirdsAndMotions(String name, int[] a) {
        switch (name) {
            case "bird": {
                ask(among(a[0], 0, 6), Due.BEYOND);
                ask(now.birds.size() < 8, Due.FULL);
                Bird b = new Bird();
                b.kind = NAMES.get(a[0]);
                now.birds.add(b);
                return now.birds.size() - 1;
            }
            case "of": {
                askBird(a[0]);
                ask(among(a[1], 0, 8), Due.BEYOND);
                Bird b = now.birds.get(a[0]);
                int[] all = {NAMES.indexOf(b.kind), b.keeps, b.grows, b.feathers[0], b.feathers[1], b.feathers[2],
                    b.feathers[3], b.all(), b.all() >= b.keeps ? 1 : 0};
                return all[a[1]];
            }
            case "change": {
                askBird(a[0]);
                ask(among(a[1], 0, 6), Due.BEYOND);
                ask(among(a[2], 0, a[1] == 0 ? 6 : a[1] == 2 ? 9 : 99), Due.BEYOND);
                long was = answer("of", new int[] {a[0], a[1]});
                Bird b = now.birds.get(a[0]);
                if (a[1] == 0) {
                    b.kind = NAMES.get(a[2]);
                } else if (a[1] == 1) {
                    b.keeps = a[2];
                } else if (a[1] == 2) {
                    b.grows = a[2];
                } else {
                    b.feathers[a[1] - 3] = a[2];
                }
                return was;
            }
            case "motion":
                ask(among(a[0], 0, 3), Due.BEYOND);
                ask(now.motions.size() < 8, Due.FULL);
                now.motions.add(new int[] {a[0], 1, 0, 0, 0});
                return now.motions.size() - 1;
            case "told":
                askMotion(a[0]);
                ask(among(a[1], 0, 4), Due.BEYOND);
                return now.motions.get(a[0])[a[1]];
            default: {
                askMotion(a[0]);
                ask(among(a[1], 0, 4), Due.BEYOND);
                int[] most = {3, 99, (1 << now.birds.size()) - 1, 4, 1};
                ask(among(a[2], 0, most[a[1]]), Due.BEYOND);
                int was = now.motions.get(a[0])[a[1]];
                now.motions.get(a[0])[a[1]] = a[2];
                return was;
            }
        }
    }

    private long answerOfVotes(String name, int[] a) {
        switch (name) {
            case "drops":
                askBird(a[0]);
                askMotion(a[1]);
                return now.drop(a[0], a[1]);
            case "side":
                askMotion(a[0]);
                ask(among(a[1], 0, 1), Due.BEYOND);
                return now.dropped(a[0], a[1]);
            case "passes":
                askMotion(a[0]);
                return now.passes(a[0]) ? 1 : 0;
            case "vote":
                askMotion(a[0]);
                return now.vote(a[0]) ? 1 : 0;
            case "seasons":
                ask(among(a[0], 1, 40), Due.BEYOND);
                ask(now.season + a[0] <= 99999, Due.STATE);
                for (int i = 0; i < a[0]; i++) {
                    now.pass();
                }
                return now.feathers();
            case "now": {
                ask(among(a[0], 0, 7), Due.BEYOND);
                int[] all = {now.season, now.feathers(), now.laws(), now.flyers(), now.foot[0], now.foot[1],
                    now.foot[2], now.foot[3]};
                return all[a[0]];
            }
            default: {
                int lay = Arrays.stream(now.foot).sum();
                now.foot = new int[4];
                return lay;
            }
        }
    }

    private boolean passesIf(int motion, int wants) {
        World w = now.twin();
        w.motions.get(motion)[2] = wants;
        return w.passes(motion);
    }

    private long answerOfWhatWillBe(String name, int[] a) {
        if (name.equals("flies") || name.equals("kindFor") || name.equals("power")) {
            askBird(a[0]);
        }
        if (name.equals("power")) {
            askMotion(a[1]);
        } else if (!name.equals("flies") && !name.equals("kindFor")) {
            askMotion(a[0]);
        }
        int all = 1 << now.birds.size();
        switch (name) {
            case "when": case "flies": {
                World w = now.twin();
                for (int n = 0; n <= 200; n++, w.pass()) {
                    if (name.equals("when") ? w.passes(a[0]) : (w.flyers() >> a[0] & 1) == 1) {
                        return n;
                    }
                }
                throw new Finding(Due.NONE);
            }
            case "plucked": {
                World w = now.twin();
                w.vote(a[0]);
                return now.flyers() & ~w.flyers();
            }
            case "hinges": {
                int set = 0;
                for (int b = 0; b < now.birds.size(); b++) {
                    set += passesIf(a[0], now.motions.get(a[0])[2] ^ 1 << b) != now.passes(a[0]) ? 1 << b : 0;
                }
                return set;
            }
            case "sets": {
                int n = 0;
                for (int set = 0; set < all; set++) {
                    n += passesIf(a[0], set) ? 1 : 0;
                }
                return n;
            }
            case "power": {
                int n = 0;
                for (int without = 0; without < all; without++) {
                    boolean lacks = (without >> a[0] & 1) == 0;
                    n += lacks && passesIf(a[1], without + (1 << a[0])) && !passesIf(a[1], without) ? 1 : 0;
                }
                return n;
            }
            case "won": {
                int wants = now.motions.get(a[0])[2];
                for (int size = 0; size <= 8; size++) {
                    for (int set = 0; set < all; set++) {
                        if (Integer.bitCount(set) == size && (set & wants) == 0 && passesIf(a[0], set + wants)) {
                            return set;
                        }
                    }
                }
                throw new Finding(Due.NONE);
            }
            case "colour": {
                TreeMap<Integer, Integer> coloursByDropped = new TreeMap<>();
                for (int c = 0; c < 4; c++) {
                    World w = now.twin();
                    w.motions.get(a[0])[0] = c;
                    if (w.passes(a[0])) {
                        coloursByDropped.putIfAbsent(w.dropped(a[0], 0) + w.dropped(a[0], 1), c);
                    }
                }
                ask(!coloursByDropped.isEmpty(), Due.NONE);
                return coloursByDropped.firstEntry().getValue();
            }
            case "kindFor": {
                for (int n = 8; n > 0; n--) {
                    for (int k = 0; k <= 6; k++) {
                        World w = now.twin();
                        w.birds.get(a[0]).kind = NAMES.get(k);
                        int passing = 0;
                        for (int m = 0; m < w.motions.size(); m++) {
                            passing += w.passes(m) ? 1 : 0;
                        }
                        if (passing == n) {
                            return k;
                        }
                    }
                }
                return 0;
            }
            default: {
                World w = now.twin();
                for (int q = 99; q >= 0; q--) {
                    w.motions.get(a[0])[1] = q;
                    if (w.passes(a[0])) {
                        return q;
                    }
                }
                throw new Finding(Due.NONE);
            }
        }
    }

    private static void allOrders(List<Integer> begun, List<Integer> rest, List<List<Integer>> into) {
        if (rest.isEmpty()) {
            into.add(begun);
        }
        for (Integer next : rest) {
            List<Integer> longer = new ArrayList<>(begun);
            longer.add(next);
            List<Integer> fewer = new ArrayList<>(rest);
            fewer.remove(next);
            allOrders(longer, fewer, into);
        }
    }

    private long answerOfAgendas(String name, int[] a) {
        ask(a[0] >= 0 && a[0] < 1 << now.motions.size() && Integer.bitCount(a[0]) <= 5, Due.BEYOND);
        List<Integer> members = new ArrayList<>();
        for (int m = 0; m < 8; m++) {
            if ((a[0] >> m & 1) == 1) {
                members.add(m);
            }
        }
        ask(!name.equals("ith") || among(a[1], 0, members.size() - 1), Due.BEYOND);
        List<List<Integer>> orders = new ArrayList<>();
        allOrders(List.of(), members, orders);
        int most = -1;
        List<List<Integer>> best = new ArrayList<>();
        for (List<Integer> order : orders) {
            int passing = now.twin().votes(order);
            if (passing > most) {
                best.clear();
                most = passing;
            }
            if (passing == most) {
                best.add(order);
            }
        }
        switch (name) {
            case "agenda":
                return most;
            case "ith":
                return best.get(0).get(a[1]);
            case "ways":
                return best.size();
            default: {
                World w = now.twin();
                w.votes(best.get(0));
                return w.feathers();
            }
        }
    }

    private boolean sheetHas(int s, int i, int v) {
        return i >= sheets[s].length || sheets[s][i] == v;
    }

    private long answerOfOddsAndDraws(String name, int[] a) {
        switch (name) {
            case "wind": {
                askMotion(a[0]);
                ask(among(a[1], 0, 10) && among(a[2], 0, 1), Due.BEYOND);
                int n = now.dropped(a[0], 0) + now.dropped(a[0], 1);
                ask(n <= 15, Due.SIZE);
                BigInteger above = BigInteger.valueOf(10 - a[1]).pow(n);
                BigInteger below = BigInteger.TEN.pow(n);
                return (a[2] == 0 ? above : below).divide(above.gcd(below)).longValueExact();
            }
            case "fits": {
                askSheet(a[0]);
                int set = 0;
                for (int m = 0; m < now.motions.size(); m++) {
                    boolean is = sheetHas(a[0], 0, now.dropped(m, 1)) && sheetHas(a[0], 1, now.dropped(m, 0));
                    set += is ? 1 << m : 0;
                }
                return set;
            }
            case "stolen": {
                askSheet(a[0]);
                ask(among(a[1], 0, 9), Due.BEYOND);
                int set = 0;
                for (int b = 0; b < now.birds.size(); b++) {
                    boolean is = true;
                    for (int c = 0; c < 4; c++) {
                        int had = now.birds.get(b).feathers[c];
                        is &= sheetHas(a[0], c, had - Math.min(had, a[1]));
                    }
                    set += is ? 1 << b : 0;
                }
                return set;
            }
            case "years": {
                ask(among(a[0], 1, 20), Due.BEYOND);
                ask(now.season + a[0] <= 99999, Due.STATE);
                int passed = 0;
                for (int i = 0; i < a[0]; i++) {
                    now.pass();
                    if (!now.motions.isEmpty()) {
                        now.z = (int) ((now.z & 0xffffffffL) * 1103515245L + 12345L);
                        passed += now.vote((int) ((now.z & 0xffffffffL) / 256 % now.motions.size())) ? 1 : 0;
                    }
                }
                return passed;
            }
            default: {
                int was = now.z;
                now.z = a[0];
                return was;
            }
        }
    }

    private long answerOfTextsAndSpots(String name, int[] a) {
        switch (name) {
            case "feed":
                ask(among(a[1], 1, 4), Due.BEYOND);
                ask(tape.length() + a[1] <= 120, Due.FULL);
                for (int i = 4 - a[1]; i < 4; i++) {
                    tape.append((char) (BigInteger.valueOf(a[0]).shiftRight(24 - 8 * i).intValue() & 255));
                }
                return tape.length();
            case "wipe": {
                int had = tape.length();
                tape = new StringBuilder();
                return had;
            }
            case "text": {
                String read = tape.toString();
                tape = new StringBuilder();
                try {
                    World w = now.twin();
                    int items = new TextReader(read, w).items();
                    now = w;
                    return items;
                } catch (Fault f) {
                    return -1 - f.place;
                }
            }
            case "hold":
                ask(among(a[0], 0, 9), Due.BEYOND);
                if (a[1] == -1) {
                    now.spots.remove(a[0]);
                } else {
                    askBird(a[1]);
                    now.spots.put(a[0], a[1]);
                }
                return 1;
            default:
                ask(among(a[0], 0, 9) && among(a[1], 0, 6), Due.BEYOND);
                ask(now.spots.containsKey(a[0]), Due.MISSING);
                ask(now.birds.get(now.spots.get(a[0])).is(NAMES.get(a[1])), Due.KIND);
                return now.spots.get(a[0]);
        }
    }

    /** Reads a text, item by item, into a world. */
    private static final class TextReader {
        private final World world;
        private final int length;
        private final List<String> tokens = new ArrayList<>();
        private final List<Integer> places = new ArrayList<>();
        private int at = 0;

        TextReader(String text, World world) {
            this.world = world;
            length = text.length();
            Matcher m = Pattern.compile(TOKEN.pattern(), Pattern.DOTALL).matcher(text);
            while (m.find()) {
                tokens.add(m.group());
                places.add(m.start());
            }
        }

        private String peek() {
            return at < tokens.size() ? tokens.get(at) : "";
        }

        private Fault fault() {
            return new Fault(at < tokens.size() ? places.get(at) : length);
        }

        private int number(int most) {
            boolean is = peek().matches("[0-9]+") && new BigInteger(peek()).compareTo(BigInteger.valueOf(most)) <= 0;
            if (!is) {
                throw fault();
            }
            return new BigInteger(tokens.get(at++)).intValue();
        }

        private int numberBehind(String word, int most, int otherwise) {
            if (!peek().equals(word)) {
                return otherwise;
            }
            at++;
            return number(most);
        }

        int items() {
            int items = 0;
            do {
                item();
                items++;
                if (at == tokens.size()) {
                    return items;
                }
                if (!peek().equals(";")) {
                    throw fault();
                }
                at++;
            } while (true);
        }

        private void item() {
            String word = peek();
            if (NAMES.contains(word) && world.birds.size() < 8) {
                at++;
                Bird b = new Bird();
                b.kind = word;
                if (peek().equals("has")) {
                    at++;
                    b.feathers[0] = number(99);
                    for (int c = 1; c < 4 && peek().matches("[0-9]+"); c++) {
                        b.feathers[c] = number(99);
                    }
                }
                b.keeps = numberBehind("keeps", 99, 2);
                b.grows = numberBehind("grows", 9, 1);
                world.birds.add(b);
            } else if (word.equals("motion") && world.motions.size() < 8) {
                at++;
                int colour = number(3);
                int quorum = numberBehind("quorum", 99, 1);
                int wants = numberBehind("wants", (1 << world.birds.size()) - 1, 0);
                int effect = numberBehind("effect", 4, 0);
                world.motions.add(new int[] {colour, quorum, wants, effect, 0});
            } else if (word.equals("season")) {
                at++;
                world.season = number(999);
            } else {
                throw fault();
            }
        }
    }

    private long answerOfSheets(String name, int[] a) {
        switch (name) {
            case "sheet":
                ask(among(a[0], 0, 3) && List.of(0, 8, 16, 32).contains(a[1]), Due.BEYOND);
                ask(a[2] >= 0, Due.SIZE);
                ask(a[2] <= 40, Due.BEYOND);
                bits[a[0]] = a[1];
                sheets[a[0]] = a[1] == 0 ? null : new long[a[2]];
                return a[1] == 0 ? 0 : a[2];
            case "write": {
                askSheet(a[0]);
                ask(among(a[1], 0, sheets[a[0]].length - 1), Due.BEYOND);
                long whole = 1L << bits[a[0]];
                long v = Math.floorMod((long) a[2], whole);
                sheets[a[0]][a[1]] = v >= whole / 2 ? v - whole : v;
                return 1;
            }
            case "copy": {
                ask(among(a[0], 0, 3) && among(a[2], 0, 3), Due.BEYOND);
                ask(sheets[a[0]] != null && sheets[a[2]] != null, Due.MISSING);
                ask(bits[a[0]] == bits[a[2]], Due.KIND);
                ask(a[1] >= 0 && a[3] >= 0 && a[4] >= 0, Due.BEYOND);
                ask((long) a[1] + a[4] <= sheets[a[0]].length && (long) a[3] + a[4] <= sheets[a[2]].length, Due.BEYOND);
                long[] were = sheets[a[0]].clone();
                for (int i = 0; i < a[4]; i++) {
                    sheets[a[2]][a[3] + i] = were[a[1] + i];
                }
                return a[4];
            }
            case "load": {
                askSheet(a[0]);
                int came = 0;
                for (long v : sheets[a[0]]) {
                    if (v < 0 || v > 99 || came == now.birds.size()) {
                        break;
                    }
                    now.birds.get(came++).feathers[0] = (int) v;
                }
                return came;
            }
            default: {
                askSheet(a[0]);
                List<Integer> row = new ArrayList<>();
                for (long v : sheets[a[0]]) {
                    ask(v >= 0 && v < now.motions.size(), Due.STATE);
                    row.add((int) v);
                }
                return now.twin().votes(row);
            }
        }
    }

    private long answerOfImages(String name, int[] a) {
        switch (name) {
            case "image":
                image = now.twin();
                return 1;
            case "undo":
                ask(image != null, Due.NONE);
                now = image.twin();
                return now.season;
            case "tear": {
                int was = image == null ? 0 : 1;
                image = null;
                return was;
            }
            case "count": {
                ask(among(a[0], 0, 7), Due.BEYOND);
                int[] all = {now.season, now.birds.size(), now.motions.size(), Integer.bitCount(now.laws()),
                    now.feathers(), tape.length(), now.z, now.spots.size()};
                return all[a[0]];
            }
            case "status":
                ask(among(a[0], -1, 6), Due.BEYOND);
                return a[0] == -1 ? Arrays.stream(found).sum() : found[a[0]];
            default:
                throw new IllegalArgumentException(name);
        }
    }
}
