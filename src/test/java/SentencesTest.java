import java.io.IOException;
import java.nio.file.Files;
import java.nio.file.Path;
import java.util.ArrayList;
import java.util.List;
import java.util.function.IntToLongFunction;

/**
 * The document sentence by sentence: each test quotes the words that it tests, up to the edges that
 * they name. The end of the run asks whether any word of the terms or of a promise was left out.
 * No object here is asked more than the 512 calls of which the document speaks, but for STATE of
 * seasons() and years(), which fewer calls can't reach.
 */
public final class SentencesTest {
    private static final Path DOCUMENT = Path.of("../shared/DOC.md");
    private static final int PROMISES = 48;
    /** Where the words under "Terms" stand. */
    private static final int TERMS = 0;
    private static final int BEYOND = Due.BEYOND;
    private static final int FULL = Due.FULL;
    private static final int KIND = Due.KIND;
    private static final int NONE = Due.NONE;
    private static final int STATE = Due.STATE;
    private static final int MISSING = Due.MISSING;
    private static final int SIZE = Due.SIZE;
    private static final int MIN = Integer.MIN_VALUE;
    private static final int MAX = Integer.MAX_VALUE;
    private static final String EIGHT_BIRDS = "bird;bird;bird;bird;bird;bird;bird;bird";
    private static final String EIGHT_MOTIONS = "motion 0;motion 1;motion 2;motion 3;motion 0;motion 1;motion 2;motion 3";

    private static final Due DUE = new Due();
    private static final List<List<String>> QUOTED = new ArrayList<>();

    private SentencesTest() {
    }

    public static void main(String[] args) throws IOException {
        for (int promise = 0; promise <= PROMISES; promise++) {
            QUOTED.add(new ArrayList<>());
        }
        findings();
        birds();
        motions();
        drops();
        votes();
        texts();
        spotsAndSheets();
        promises1To7();
        promises8To14();
        promises15To20();
        promises21To24();
        promises25To28();
        promises29To32();
        promises33To36();
        promises37To43();
        promises44To48();
        noWordIsLeftOut(Files.readString(DOCUMENT));
        DUE.end();
    }

    // ---- how it is asked

    private static void at(int promise, String words) {
        DUE.part(promise + " '" + words + "'");
        QUOTED.get(promise).add(words);
    }

    private static void due(String call, long got, long want) {
        DUE.is(call, got, want);
    }

    /** What lies right outside an argument's range, or far outside, is BEYOND. */
    private static void dueBeyond(String call, int least, int most, IntToLongFunction ask) {
        for (int v : new int[] {least - 1, most + 1, MIN, MAX, -1000001, 1 << 16}) {
            due(call + " of " + v, ask.applyAsLong(v), BEYOND);
        }
    }

    private static int read(FeatherVotes x, String text) {
        for (int i = 0; i < text.length(); i += 4) {
            int bytes = 0;
            int n = Math.min(4, text.length() - i);
            for (int k = i; k < i + n; k++) {
                bytes = bytes << 8 | text.charAt(k);
            }
            x.feed(bytes, n);
        }
        return x.text();
    }

    private static void dueText(FeatherVotes x, String text, int want) {
        due("text of '" + text + "'", read(x, text), want);
    }

    /** A fault at a place of a text. */
    private static void dueFault(FeatherVotes x, String text, int place) {
        dueText(x, text, -1 - place);
    }

    private static FeatherVotes state(String... texts) {
        FeatherVotes x = new FeatherVotes();
        for (String text : texts) {
            dueText(x, text, text.split(";").length);
        }
        return x;
    }

    private static void dueBird(FeatherVotes x, int bird, int... features) {
        for (int what = 0; what < features.length; what++) {
            due("of " + bird + " " + what, x.of(bird, what), features[what]);
        }
    }

    private static void dueMotion(FeatherVotes x, int motion, int... features) {
        for (int what = 0; what < features.length; what++) {
            due("told " + motion + " " + what, x.told(motion, what), features[what]);
        }
    }

    private static void row(FeatherVotes x, int s, int bits, int... numbers) {
        x.sheet(s, bits, numbers.length);
        for (int i = 0; i < numbers.length; i++) {
            x.write(s, i, numbers[i]);
        }
    }

    private static void dueLoaded(FeatherVotes x, int s, int... numbers) {
        due("load", x.load(s), numbers.length);
        for (int i = 0; i < numbers.length; i++) {
            due("number " + i, x.of(i, 3), numbers[i]);
        }
    }

    // ---- terms

    private static void findings() {
        at(TERMS, "FINDINGS are answers below -1000000: LOW is -1000001; LOW BEYOND, LOW - 1 FULL, LOW - 2 KIND,"
                + " LOW - 3 NONE, LOW - 4 STATE, LOW - 5 MISSING, LOW - 6 SIZE (in longs, too).");
        FeatherVotes x = state("tern has 99;" + EIGHT_BIRDS.substring(5) + ";motion 0");
        x.hold(0, 0);
        row(x, 0, 8, 1);
        due("beyond", x.bird(7), -1000001);
        due("full", x.bird(6), -1000002);
        due("kind", x.as(0, 1), -1000003);
        due("none", x.undo(), -1000004);
        due("state", x.judge(0), -1000005);
        due("missing", x.load(1), -1000006);
        due("size", x.sheet(1, 8, -1), -1000007);
        due("beyond in a long", x.wind(1, 0, 0), -1000001L);
        for (int b = 0; b < 8; b++) {
            x.change(b, 0, 4);
            x.change(b, 3, 2);
        }
        due("size in a long", x.wind(0, 0, 0), -1000007L);
        for (int which = 0; which <= 6; which++) {
            due("status " + which, x.status(which), which == 0 || which == 6 ? 2 : 1);
        }
        at(TERMS, "What seed() and count(6) tell, z, may be any int: that is no finding.");
        x = new FeatherVotes();
        int was = 1;
        for (int v : new int[] {-1000001, -1000002, -1000003, -1000004, -1000005, -1000006, -1000007, MIN, MAX, 0, -1}) {
            due("seed", x.seed(v), was);
            due("z", x.count(6), v);
            was = v;
        }
        due("no finding", x.status(-1), 0);
        findingsInOrder();
        at(TERMS, "Quotients are cut.");
        x = state("motion 0;motion 1 wants 0;bird has 9 9");
        x.seed(-7);
        due("the rest of a draw from below 0", x.years(1), 0);
        due("it is still one of the two", x.now(4) + x.now(5), 1);
        at(TERMS, "Sets are told as bits; of several that would do the least number counts, where nothing else is told.");
        x = state("bird has 2;bird;bird has 2;motion 0 quorum 0 wants 4;motion 1 wants 1");
        due("who fly", x.now(3), 5);
        due("wants", x.told(0, 2), 4);
        due("won", x.won(0), 1);
        due("of kinds that let none pass the least", x.kindFor(1), 0);
    }

    private static void findingsInOrder() {
        at(TERMS, "Each act tells its findings in the order in which they are asked (that of its words);"
                + " one that answers a finding changes nothing but status().");
        FeatherVotes x = state(EIGHT_BIRDS, EIGHT_MOTIONS);
        due("bird", x.bird(7), BEYOND);
        due("bird", x.bird(0), FULL);
        due("motion", x.motion(4), BEYOND);
        due("motion", x.motion(0), FULL);
        due("as of nothing", x.as(0, 7), BEYOND);
        due("as of nothing", x.as(0, 6), MISSING);
        x.hold(0, 0);
        due("as", x.as(0, 7), BEYOND);
        due("as", x.as(0, 6), KIND);
        due("sheet of other bits", x.sheet(0, 9, -1), BEYOND);
        due("no sheet", x.sheet(4, 8, -1), BEYOND);
        due("sheet", x.sheet(0, 8, MIN), SIZE);
        due("sheet", x.sheet(0, 8, MAX), BEYOND);
        due("write", x.write(4, 99, 0), BEYOND);
        due("write", x.write(0, 99, 0), MISSING);
        due("judge", x.judge(0), MISSING);
        due("stolen", x.stolen(4, 10), BEYOND);
        due("stolen", x.stolen(0, 10), MISSING);
        due("copy", x.copy(0, -1, 4, -1, -1), BEYOND);
        due("copy", x.copy(0, -1, 1, -1, -1), MISSING);
        row(x, 0, 8, 8);
        row(x, 1, 16, 8);
        due("copy", x.copy(0, -1, 1, -1, -1), KIND);
        x.sheet(1, 8, 1);
        due("copy", x.copy(0, -1, 1, -1, -1), BEYOND);
        due("judge", x.judge(0), STATE);
        due("feed", x.feed(0, 5), BEYOND);
        for (int i = 0; i < 30; i++) {
            x.feed(0, 4);
        }
        due("feed", x.feed(0, 5), BEYOND);
        due("feed", x.feed(0, 1), FULL);
        FeatherVotes y = state("tern has 99;tern has 99;motion 0");
        due("wind: 5 and 5 are dropped", y.wind(0, 1, 1), 10000000000L);
        due("wind", y.wind(0, 11, 2), BEYOND);
        y.bird(4);
        y.change(2, 3, 99);
        due("wind: thrice 7", y.wind(0, 11, 0), BEYOND);
        due("wind: thrice 7", y.wind(0, 10, 0), SIZE);
    }

    private static void birds() {
        at(TERMS, "COLOURS 0 to 3.");
        FeatherVotes x = new FeatherVotes();
        due("the first", x.motion(0), 0);
        due("the last", x.motion(3), 1);
        dueBeyond("motion", 0, 3, v -> x.motion(v));
        at(TERMS, "BIRDS 0, 1, .. (at most 8), of KINDS: 0 BIRD; 1 SWAN, 2 CROW, 5 WREN under BIRD; 3 RAVEN under CROW;"
                + " 4 TERN under RAVEN; 6 GULL under WREN; each with FEATHERS of each COLOUR (0 to 99; 0 at first), KEEPS"
                + " (0 to 99 in all; 2 at first), GROWS (0 to 9; 1 at first).");
        FeatherVotes y = new FeatherVotes();
        for (int kind = 0; kind <= 6; kind++) {
            due("its number", y.bird(kind), kind);
            dueBird(y, kind, kind, 2, 1, 0, 0, 0, 0, 0, 0);
            y.hold(kind, kind);
        }
        String[] above = {"0", "01", "02", "023", "0234", "05", "056"};
        for (int kind = 0; kind <= 6; kind++) {
            for (int asked = 0; asked <= 6; asked++) {
                boolean is = above[kind].indexOf('0' + asked) >= 0;
                due("as " + kind + " " + asked, y.as(kind, asked), is ? kind : KIND);
            }
        }
        due("the 8th", y.bird(0), 7);
        due("the 9th", y.bird(0), FULL);
        int[] most = {6, 99, 9, 99, 99, 99, 99};
        for (int what = 0; what <= 6; what++) {
            int asked = what;
            dueBeyond("change of " + what, 0, most[what], v -> y.change(7, asked, v));
            due("the most", y.change(7, what, most[what]), y.of(6, what) == 6 ? 0 : y.of(6, what));
            due("the least", y.change(7, what, 0), most[what]);
        }
        at(TERMS, "It FLIES, if its FEATHERS of all COLOURS together are KEEPS or more.");
        FeatherVotes z = state("bird has 1 1 1 1 keeps 4;bird has 1 1 1 0 keeps 4;bird keeps 0;bird has 99 keeps 99;bird has 98 keeps 99");
        due("who fly", z.now(3), 1 + 4 + 8);
    }

    private static void motions() {
        at(TERMS, "MOTIONS 0, 1, .. (at most 8): COLOUR, QUORUM (0 to 99; 1 at first), WANTS (who is for it, a set of BIRDS;"
                + " all others are against; nobody at first), EFFECT (0 none, at first; 1 GROWS of all one more, 9 at most;"
                + " 2 one less, 0 at least; 3 KEEPS of all one more, 99 at most; 4 one less, 0 at least), LAW or not.");
        FeatherVotes x = new FeatherVotes();
        for (int m = 0; m < 8; m++) {
            due("its number", x.motion(m % 4), m);
            dueMotion(x, m, m % 4, 1, 0, 0, 0);
        }
        due("the 9th", x.motion(0), FULL);
        for (int b = 0; b < 8; b++) {
            dueBeyond("wants of " + b + " birds", 0, (1 << b) - 1, v -> x.tell(0, 2, v));
            x.bird(0);
        }
        int[] most = {3, 99, 255, 4, 1};
        for (int what = 0; what <= 4; what++) {
            int asked = what;
            dueBeyond("tell of " + what, 0, most[what], v -> x.tell(7, asked, v));
        }
        FeatherVotes y = state("bird has 9 keeps 0 grows 0;bird keeps 99 grows 9;bird keeps 1 grows 1;bird keeps 98 grows 8",
                "motion 0 wants 1;motion 0 wants 1 effect 1;motion 0 wants 1 effect 2;motion 0 wants 1 effect 3;motion 0 wants 1 effect 4");
        int[][] keeps = {{0, 99, 1, 98}, {0, 99, 1, 98}, {0, 99, 1, 98}, {1, 99, 2, 99}, {0, 98, 1, 98}};
        int[][] grows = {{0, 9, 1, 8}, {1, 9, 2, 9}, {0, 8, 1, 8}, {0, 8, 1, 8}, {0, 8, 1, 8}};
        for (int m = 0; m <= 4; m++) {
            due("vote", y.vote(m), 1);
            for (int b = 0; b < 4; b++) {
                dueBird(y, b, 0, keeps[m][b], grows[m][b]);
            }
        }
        FeatherVotes z = state("bird has 9 keeps 0 grows 0;bird keeps 0 grows 0;motion 0 wants 1 effect 2;motion 0 wants 1 effect 4");
        due("one less", z.vote(0), 1);
        due("one less", z.vote(1), 1);
        dueBird(z, 0, 0, 0, 0);
        dueBird(z, 1, 0, 0, 0);
    }

    private static void drops() {
        at(TERMS, "DROPS of a BIRD for a MOTION, of its COLOUR, no more than it holds: BIRD: 1.");
        FeatherVotes x = state("bird has 0 1;bird has 2;bird has 99;motion 0 wants 4;motion 1");
        int[][] want = {{0, 1}, {1, 0}, {1, 0}};
        for (int b = 0; b < 3; b++) {
            due("colour 0", x.drops(b, 0), want[b][0]);
            due("colour 1", x.drops(b, 1), want[b][1]);
        }
        at(TERMS, "SWAN: 1, if the COLOUR is 0, else 0.");
        x = state("swan has 9 9 9 9;swan has 0 9 9 9;motion 0;motion 1;motion 2;motion 3");
        for (int c = 0; c < 4; c++) {
            due("of colour " + c, x.drops(0, c), c == 0 ? 1 : 0);
            due("holds none of 0", x.drops(1, c), 0);
        }
        at(TERMS, "CROW: as a BIRD, and 1 for each other CROW (or under it) that is on its side.");
        x = state("crow has 9;raven;tern;crow has 2;bird has 9;swan has 9;wren has 9;gull has 9;motion 0");
        due("three others", x.drops(0, 0), 4);
        due("no more than it holds", x.drops(3, 0), 2);
        x.tell(0, 2, 1);
        due("alone for it", x.drops(0, 0), 1);
        x.tell(0, 2, 255 - 1);
        due("alone against it", x.drops(0, 0), 1);
        x.tell(0, 2, 3);
        due("with the raven", x.drops(0, 0), 2);
        x.tell(0, 2, 5);
        due("with the tern", x.drops(0, 0), 2);
        x.tell(0, 2, 255 - 9);
        due("with the crow, against it", x.drops(0, 0), 2);
        ravensTernsWrensAndGulls();
    }

    private static void ravensTernsWrensAndGulls() {
        at(TERMS, "RAVEN: twice as CROW.");
        FeatherVotes x = state("raven has 99;crow;tern;bird;motion 0;motion 0 wants 1;motion 0 wants 3");
        due("two others", x.drops(0, 0), 6);
        due("alone", x.drops(0, 1), 2);
        due("with one", x.drops(0, 2), 4);
        x.change(0, 3, 5);
        due("no more than it holds", x.drops(0, 0), 5);
        x.change(0, 3, 1);
        due("no more than it holds", x.drops(0, 1), 1);
        at(TERMS, "TERN: as RAVEN, and 1.");
        x = state("tern has 17;crow;crow;crow;raven;raven;tern;tern;motion 0;motion 0 wants 1;motion 0 wants 3");
        due("seven others", x.drops(0, 0), 17);
        due("alone", x.drops(0, 1), 3);
        due("with one", x.drops(0, 2), 5);
        x.change(0, 3, 16);
        due("no more than it holds", x.drops(0, 0), 16);
        x.change(0, 3, 0);
        due("none", x.drops(0, 0), 0);
        at(TERMS, "WREN: 1, if it would still FLY without it (with what it holds now), else 0.");
        x = state("wren has 3;wren has 2;wren has 1 2;wren has 0 9;wren has 1 keeps 0;wren keeps 0;wren has 99 1 keeps 99;motion 0 wants 2");
        int[] wrens = {1, 0, 1, 0, 1, 0, 1};
        for (int b = 0; b < wrens.length; b++) {
            due("wren " + b, x.drops(b, 0), wrens[b]);
        }
        x.change(6, 4, 0);
        due("99 of 99", x.drops(6, 0), 0);
        x.seasons(1);
        due("now that it grew", x.drops(1, 0), 1);
        at(TERMS, "GULL: as WREN; and 1 more, if WANTS are none.");
        x = state("gull has 3;gull has 2;gull has 1 9;gull has 0 9;gull has 1 keeps 0;motion 0;motion 0 wants 1;motion 0 wants 2");
        int[][] gulls = {{2, 1, 1}, {1, 0, 0}, {1, 1, 1}, {0, 0, 0}, {1, 1, 1}};
        for (int b = 0; b < gulls.length; b++) {
            for (int m = 0; m < 3; m++) {
                due("gull " + b + " for " + m, x.drops(b, m), gulls[b][m]);
            }
        }
    }

    private static void votes() {
        at(TERMS, "A VOTE on a MOTION: each BIRD by numbers DROPS as of what they held ahead of it (FEATHERS are so many fewer;"
                + " they lie at THE FOOT, which is so many more, by COLOURS; 9999 at most).");
        FeatherVotes x = state("wren has 5 3;crow has 0 2;crow has 9 9;tern has 1 9;bird;motion 1 wants 8");
        due("3 for, 1 + 2 + 2 against", x.vote(0), 0);
        int[] left = {2, 0, 7, 6, 0};
        for (int b = 0; b < left.length; b++) {
            due("of colour 1", x.of(b, 4), left[b]);
        }
        due("of colour 0", x.of(0, 3) + x.of(2, 3) + x.of(3, 3), 15);
        int[] foot = {0, 8, 0, 0};
        for (int c = 0; c < 4; c++) {
            due("foot", x.now(4 + c), foot[c]);
        }
        fullFoot();
        at(TERMS, "It PASSES, if all that was dropped for it is more than what was against, and all dropped is QUORUM or more.");
        x = state("bird has 1;bird has 1;bird has 1;motion 0 quorum 0 wants 3;motion 0 quorum 3 wants 3;motion 0 quorum 4 wants 3",
                "motion 0 quorum 0 wants 1;motion 1 quorum 0 wants 7;motion 0 quorum 0");
        int[] passing = {1, 1, 0, 0, 0, 0};
        for (int m = 0; m < passing.length; m++) {
            due("passes " + m, x.passes(m), passing[m]);
        }
        x.change(2, 3, 0);
        x.tell(3, 2, 2);
        due("1 to 1", x.passes(3), 0);
        at(TERMS, "If it PASSES and was no LAW, it is one, and its EFFECT comes.");
        x = state("bird has 9;motion 0 wants 1 effect 1;motion 0 effect 1;motion 0 wants 1 effect 3");
        due("it doesn't", x.vote(1), 0);
        due("no law", x.now(2), 0);
        due("no effect", x.of(0, 2), 1);
        due("it does", x.vote(0), 1);
        due("law", x.now(2), 1);
        due("effect", x.of(0, 2), 2);
        due("as a law", x.vote(0), 1);
        due("no effect", x.of(0, 2), 2);
        x.tell(0, 2, 0);
        due("a law that doesn't", x.vote(0), 0);
        due("stays law", x.now(2), 1);
        x.tell(2, 4, 1);
        due("a law by word", x.vote(2), 1);
        due("no effect", x.of(0, 1), 2);
        seasonsAndDraws();
    }

    private static void fullFoot() {
        FeatherVotes x = state("tern grows 9;tern grows 9;tern grows 9;tern grows 9;tern grows 9;tern grows 9;tern grows 9;tern grows 9",
                "motion 0");
        int lies = 0;
        for (int round = 0; round < 15; round++) {
            x.seasons(40);
            for (int i = 0; i < 5; i++) {
                int had = x.now(1);
                due("vote", x.vote(0), 0);
                due("17 of each of 8", x.now(1), had - 136);
                lies = Math.min(9999, lies + 136);
                due("foot", x.now(4), lies);
            }
        }
        due("foot is full", x.now(4), 9999);
        due("other colours", x.now(5) + x.now(6) + x.now(7), 0);
        x.tell(0, 0, 3);
        x.vote(0);
        due("another colour", x.now(7), 136);
        due("all of it", x.clears(), 9999 + 136);
    }

    private static void seasonsAndDraws() {
        at(TERMS, "A SEASON: each BIRD gets GROWS more of the COLOUR that SEASON by 4 leaves (99 at most of each);"
                + " SEASON (0 at first, 99999 at most) is one more.");
        FeatherVotes x = state("bird grows 9;bird has 98 99 97 98 grows 2;bird grows 0");
        int[][] want = {{9, 0, 0, 0}, {9, 9, 0, 0}, {9, 9, 9, 0}, {9, 9, 9, 9}, {18, 9, 9, 9}};
        for (int n = 0; n < want.length; n++) {
            due("season", x.now(0), n);
            x.seasons(1);
            dueBird(x, 0, 0, 2, 9, want[n][0], want[n][1], want[n][2], want[n][3]);
            due("nothing grows", x.of(2, 7), 0);
        }
        dueBird(x, 1, 0, 2, 2, 99, 99, 99, 99);
        dueText(x, "season 999", 1);
        x.seasons(1);
        due("999 by 4 leaves 3", x.of(0, 6), 18);
        due("season", x.now(0), 1000);
        at(TERMS, "AN AGENDA: a row of MOTIONS: a VOTE on each, one behind the other.");
        x = state("bird has 2;bird has 1;motion 0 quorum 2 wants 1;motion 0 wants 1");
        row(x, 0, 8, 0, 1);
        due("1 to 1, then 1 to 0", x.judge(0), 1);
        row(x, 0, 8, 1, 1, 1);
        due("1 to 1, 1 to 0, none", x.judge(0), 1);
        row(x, 0, 8, 1, 0);
        due("1 to 1, then 1 of quorum 2", x.judge(0), 0);
        at(TERMS, "DRAWS: z is told (1 at first); each makes it z * 1103515245 + 12345 (an int), and gives z >>> 8.");
        x = state("motion 0;motion 0;motion 0;motion 0;motion 0;motion 0;motion 0",
                "bird has 99 keeps 0 grows 0");
        due("z", x.count(6), 1);
        long z = 1;
        for (int start : new int[] {1, -1, MIN, MAX, 0, 2000000000}) {
            x.seed(start);
            z = start & 0xffffffffL;
            for (int i = 0; i < 4; i++) {
                z = (z * 1103515245L + 12345L) & 0xffffffffL;
                int drawn = (int) (z / 256 % 7);
                x.tell(drawn, 2, 1);
                due("the one that is drawn passes", x.years(1), 1);
                due("z", x.count(6), (int) z);
                x.tell(drawn, 2, 0);
                due("law", x.told(drawn, 4), 1);
            }
        }
        due("of -1", draw(-1), -1103502900);
        due("of the greatest", draw(MAX), 1043980748);
    }

    private static int draw(int z) {
        FeatherVotes x = state("motion 0");
        x.seed(z);
        x.years(1);
        return x.count(6);
    }

    private static void texts() {
        at(TERMS, "A TEXT is read from THE TAPE (bytes, at most 120).");
        FeatherVotes x = new FeatherVotes();
        String full = "season9;".repeat(14) + "season 9";
        due("bytes", full.length(), 120);
        dueText(x, full, 15);
        due("season", x.now(0), 9);
        dueText(x, " ".repeat(116) + "bird", 1);
        dueFault(x, " ".repeat(116) + "birb", 116);
        dueFault(x, "bird has 1" + " ".repeat(109) + ";", 120);
        dueFault(x, "season9;".repeat(15), 120);
        at(TERMS, "TOKENS, each as long as can be: WORDS (letters a to z), NUMBERS (digits, 999 at most), SIGN ; ; blanks may stand between.");
        x = new FeatherVotes();
        dueText(x, "bird has1 2keeps3grows4;motion0quorum5wants1effect2;season6", 3);
        dueBird(x, 0, 0, 3, 4, 1, 2, 0, 0);
        dueMotion(x, 0, 0, 5, 1, 2, 0);
        due("season", x.now(0), 6);
        dueText(x, "  swan  has  12  3  ;  motion  2  ;  season  999  ", 3);
        dueBird(x, 1, 1, 2, 1, 12, 3, 0, 0);
        due("season", x.now(0), 999);
        dueText(x, "season 0999", 1);
        dueFault(x, "season 1000", 7);
        dueFault(x, "season " + "9".repeat(113), 7);
        dueText(x, "season " + "0".repeat(112) + "7", 1);
        due("season", x.now(0), 7);
        dueFault(x, "birdswan", 0);
        dueFault(x, "birdhas 1", 0);
        dueFault(x, "bird has 1 0 0 0keeps1 2", 23);
        dueFault(x, "season 1 0", 9);
        for (char c : new char[] {'\t', '\n', '\r', 0, '-', '+', '.', ',', ':', '/', '`', '{', '@', '[', 'A', 'Z', 127, 128, 160, 255}) {
            dueFault(x, "season 1" + c, 8);
            dueFault(x, c + "bird", 0);
        }
        at(TERMS, "TEXT: ITEM { ; ITEM }.");
        x = new FeatherVotes();
        dueFault(x, "", 0);
        dueFault(x, " ", 1);
        dueFault(x, ";", 0);
        dueFault(x, "bird;", 5);
        dueFault(x, ";bird", 0);
        dueFault(x, "bird;;bird", 5);
        dueFault(x, "bird bird", 5);
        due("no bird", x.count(1), 0);
        dueText(x, "bird", 1);
        dueText(x, "bird;bird", 2);
        due("birds", x.count(1), 3);
        items();
        faults();
    }

    private static void items() {
        at(TERMS, "ITEM: bird, swan, crow, raven, tern, wren or gull, perhaps has and a NUMBER (0 to 99: of COLOUR 0), perhaps then up to"
                + " three more NUMBERS (0 to 99: of COLOURS 1, 2, 3; these only behind has), perhaps keeps and a NUMBER (0 to 99),"
                + " perhaps grows and a NUMBER (0 to 9): a new BIRD; motion, a NUMBER (COLOUR: 0 to 3), perhaps quorum and a NUMBER"
                + " (0 to 99), perhaps wants and a NUMBER (a set of BIRDS there by then), perhaps effect and a NUMBER (0 to 4): a new"
                + " MOTION; season, a NUMBER.");
        FeatherVotes x = state("bird;swan has 0;crow has 99 0;raven has 1 99 0;tern has 1 2 99 0;wren has 0 0 0 99",
                "gull keeps 0;bird has 99 99 99 99 keeps 99 grows 9");
        int[][] birds = {{0, 2, 1, 0, 0, 0, 0}, {1, 2, 1, 0, 0, 0, 0}, {2, 2, 1, 99, 0, 0, 0}, {3, 2, 1, 1, 99, 0, 0},
            {4, 2, 1, 1, 2, 99, 0}, {5, 2, 1, 0, 0, 0, 99}, {6, 0, 1, 0, 0, 0, 0}, {0, 99, 9, 99, 99, 99, 99}};
        for (int b = 0; b < 8; b++) {
            dueBird(x, b, birds[b]);
        }
        dueText(x, "motion 0;motion 3 quorum 0;motion 1 quorum 99 wants 0;motion 2 wants 255;motion 0 effect 0", 5);
        dueText(x, "motion 1 quorum 2 wants 3 effect 4;motion 1 quorum 7 effect 1;motion 1 wants 128 effect 2", 3);
        int[][] motions = {{0, 1, 0, 0, 0}, {3, 0, 0, 0, 0}, {1, 99, 0, 0, 0}, {2, 1, 255, 0, 0}, {0, 1, 0, 0, 0},
            {1, 2, 3, 4, 0}, {1, 7, 0, 1, 0}, {1, 1, 128, 2, 0}};
        for (int m = 0; m < 8; m++) {
            dueMotion(x, m, motions[m]);
        }
        int had = x.now(1);
        dueText(x, "season 0", 1);
        due("season", x.now(0), 0);
        dueText(x, "season 999;season 40", 2);
        due("season", x.now(0), 40);
        due("nothing grew", x.now(1), had);
        x = new FeatherVotes();
        dueText(x, "bird grows 0", 1);
        dueText(x, "bird keeps 5 grows 0;bird has 5 grows 3;bird has 4 keeps 6", 3);
        dueBird(x, 0, 0, 2, 0, 0);
        dueBird(x, 1, 0, 5, 0, 0);
        dueBird(x, 2, 0, 2, 3, 5);
        dueBird(x, 3, 0, 6, 1, 4);
    }

    private static void faults() {
        at(TERMS, "FAULT: the place (from 0) of the first byte of the first TOKEN that can't stand there (a NUMBER that isn't as told,"
                + " another WORD, a byte that begins no TOKEN, the WORD of a 9th BIRD or MOTION: its own), or how many bytes there"
                + " are if it ends too early.");
        FeatherVotes x = state("bird;bird");
        dueFault(x, "bird has 100", 9);
        dueFault(x, "bird has 1 100", 11);
        dueFault(x, "bird has 1 2 100", 13);
        dueFault(x, "bird has 1 2 3 100", 15);
        dueFault(x, "bird has 1 2 3 4 5", 17);
        dueFault(x, "bird keeps 100", 11);
        dueFault(x, "bird grows 10", 11);
        dueFault(x, "bird keeps 1 2", 13);
        dueFault(x, "bird grows 1 2", 13);
        dueFault(x, "bird 1", 5);
        dueFault(x, "motion 4", 7);
        dueFault(x, "motion 0 1", 9);
        dueFault(x, "motion 0 quorum 100", 16);
        dueFault(x, "motion 0 wants 4", 15);
        dueFault(x, "motion 0 wants 4;bird", 15);
        dueFault(x, "motion 0 wants 999", 15);
        dueFault(x, "motion 0 effect 5", 16);
        dueFault(x, "season 1 2", 9);
        // another word, or a sign
        dueFault(x, "owl", 0);
        dueFault(x, "has 1", 0);
        dueFault(x, "3", 0);
        dueFault(x, "bird;owl", 5);
        dueFault(x, "bird owl", 5);
        dueFault(x, "bird has keeps 1", 9);
        dueFault(x, "bird has ;", 9);
        dueFault(x, "bird has 1 has 1", 11);
        dueFault(x, "bird keeps 1 has 1", 13);
        dueFault(x, "bird keeps 1 keeps 1", 13);
        dueFault(x, "bird grows 1 keeps 1", 13);
        dueFault(x, "bird keeps keeps", 11);
        dueFault(x, "bird grows;", 10);
        dueFault(x, "bird quorum 1", 5);
        dueFault(x, "motion;", 6);
        dueFault(x, "motion quorum 1", 7);
        dueFault(x, "motion 0 quorum wants 1", 16);
        dueFault(x, "motion 0 wants 1 quorum 1", 17);
        dueFault(x, "motion 0 effect 1 wants 1", 18);
        dueFault(x, "motion 0 effect 1 quorum 1", 18);
        dueFault(x, "motion 0 has 1", 9);
        dueFault(x, "season season", 7);
        // a byte that begins no token; what stands ahead of it counts first
        dueFault(x, "bird #", 5);
        dueFault(x, "bird has 1#", 10);
        dueFault(x, "#", 0);
        dueFault(x, "bird has 100 #", 9);
        dueFault(x, "owl #", 0);
        due("nothing changed", x.count(1) * 10 + x.count(2), 20);
        faultsOfRoomAndEnds();
    }

    private static void faultsOfRoomAndEnds() {
        FeatherVotes x = state(EIGHT_BIRDS.substring(5));
        dueFault(x, "season 3;bird;  gull has 1", 16);
        due("nothing changed", x.count(1) * 10 + x.now(0), 70);
        dueText(x, "gull", 1);
        dueFault(x, "gull", 0);
        dueFault(x, "gull has 100", 0);
        dueFault(x, "owl;gull", 0);
        dueText(x, EIGHT_MOTIONS.substring(9), 7);
        dueFault(x, "motion 0 wants 255;motion 4", 19);
        dueText(x, "motion 0 wants 255", 1);
        dueFault(x, "motion 0", 0);
        dueFault(x, "season 1; motion", 10);
        FeatherVotes y = new FeatherVotes();
        dueFault(y, "bird has", 8);
        dueFault(y, "bird has ", 9);
        dueFault(y, "bird keeps", 10);
        dueFault(y, "bird grows  ", 12);
        dueFault(y, "motion", 6);
        dueFault(y, "motion 0 quorum", 15);
        dueFault(y, "motion 0 wants", 14);
        dueFault(y, "motion 0 effect ", 16);
        dueFault(y, "season", 6);
        dueFault(y, "season 5;", 9);
        dueFault(y, "season 5;   ", 12);
        due("nothing changed", y.count(0) + y.count(1) + y.count(2) + y.count(5), 0);
    }

    private static void spotsAndSheets() {
        at(TERMS, "SPOTS 0 to 9 hold a BIRD or nothing (at first).");
        FeatherVotes x = state("bird;swan");
        for (int spot = 0; spot <= 9; spot++) {
            due("at first", x.as(spot, 0), MISSING);
        }
        dueBeyond("hold", 0, 9, v -> x.hold(v, 0));
        dueBeyond("as", 0, 9, v -> x.as(v, 0));
        for (int spot = 0; spot <= 9; spot++) {
            due("hold", x.hold(spot, spot % 2), 1);
            due("spots", x.count(7), spot + 1);
        }
        for (int spot = 0; spot <= 9; spot++) {
            due("as", x.as(spot, 0), spot % 2);
        }
        at(TERMS, "SHEETS 0 to 3: rows of at most 40 numbers of 8, 16 or 32 bits (told with their sign: of 8 bits 255 is -1),"
                + " or MISSING (at first).");
        for (int s = 0; s <= 3; s++) {
            due("at first", x.load(s), MISSING);
            due("at first", x.judge(s), MISSING);
            due("at first", x.fits(s), MISSING);
            due("at first", x.stolen(s, 0), MISSING);
            due("at first", x.write(s, 0, 0), MISSING);
            due("at first", x.copy(s, 0, s, 0, 0), MISSING);
            due("40", x.sheet(s, 8, 40), 40);
            due("41", x.sheet(s, 8, 41), BEYOND);
        }
        dueBeyond("sheet", 0, 3, v -> x.sheet(v, 8, 1));
        int[][] signs = {{8, 255, 128, 127}, {16, 65535, 32768, 32767}, {32, -1, MIN, MAX}};
        for (int[] of : signs) {
            row(x, 0, of[0], of[1]);
            due("-1 is no number of feathers", x.load(0), 0);
            due("-1 is no motion", x.judge(0), STATE);
            row(x, 0, of[0], of[2]);
            due("far below 0", x.load(0), 0);
            row(x, 0, of[0], of[3]);
            due("far above 99", x.load(0), 0);
        }
    }

    // ---- promises

    private static void promises1To7() {
        at(1, "All as at first; no BIRDS, MOTIONS; THE TAPE is empty, no image is kept.");
        FeatherVotes x = new FeatherVotes();
        for (int what = 0; what <= 7; what++) {
            due("count", x.count(what), what == 6 ? 1 : 0);
            due("now", x.now(what), 0);
        }
        due("wipe", x.wipe(), 0);
        due("text", x.text(), -1);
        due("tear", x.tear(), 0);
        due("clears", x.clears(), 0);
        due("status", x.status(-1), 0);
        due("undo", x.undo(), NONE);
        due("of", x.of(0, 0), BEYOND);
        due("told", x.told(0, 0), BEYOND);
        FeatherVotes other = state("bird;motion 0;season 9");
        other.image();
        due("another object is another state", new FeatherVotes().count(1), 0);

        at(2, "A new BIRD: its number.");
        FeatherVotes y = new FeatherVotes();
        for (int b = 0; b < 7; b++) {
            due("bird", y.bird(6 - b), b);
            due("kind", y.of(b, 0), 6 - b);
        }
        at(2, "BEYOND.");
        dueBeyond("bird", 0, 6, v -> y.bird(v));
        due("birds", y.count(1), 7);
        at(2, "FULL.");
        y.image();
        due("the 8th", y.bird(0), 7);
        due("the 9th", y.bird(0), FULL);
        y.undo();
        due("the 8th, once more", y.bird(1), 7);
        due("the 9th", y.bird(6), FULL);
        due("birds", y.count(1), 8);

        at(3, "Of a BIRD: what 0 KIND, 1 KEEPS, 2 GROWS, 3 to 6 FEATHERS of COLOURS 0 to 3, 7 of all together, 8 1 if it FLIES.");
        FeatherVotes z = state("raven has 1 2 3 4 keeps 10 grows 5;gull has 99 99 99 99 keeps 99 grows 9;bird has 1 1 1 1 keeps 5");
        dueBird(z, 0, 3, 10, 5, 1, 2, 3, 4, 10, 1);
        dueBird(z, 1, 6, 99, 9, 99, 99, 99, 99, 396, 1);
        dueBird(z, 2, 0, 5, 1, 1, 1, 1, 1, 4, 0);
        at(3, "BEYOND.");
        dueBeyond("of a bird", 0, 2, v -> z.of(v, 0));
        dueBeyond("of what", 0, 8, v -> z.of(0, v));
        promises4To7(z);
    }

    /** Three birds are there. */
    private static void promises4To7(FeatherVotes x) {
        at(4, "KIND (what 0), KEEPS (1), GROWS (2), FEATHERS of a COLOUR (3 to 6) of a BIRD becomes v: what it was.");
        int[] was = {0, 5, 1, 1, 1, 1, 1};
        int[] most = {6, 99, 9, 99, 99, 99, 99};
        for (int what = 0; what <= 6; what++) {
            due("change", x.change(2, what, most[what]), was[what]);
            due("as it is", x.change(2, what, most[what]), most[what]);
        }
        dueBird(x, 2, 6, 99, 9, 99, 99, 99, 99, 396, 1);
        dueBird(x, 0, 3, 10, 5, 1, 2, 3, 4, 10, 1);
        for (int what = 0; what <= 6; what++) {
            due("change", x.change(2, what, 0), most[what]);
        }
        dueBird(x, 2, 0, 0, 0, 0, 0, 0, 0, 0, 1);
        at(4, "BEYOND.");
        dueBeyond("change of a bird", 0, 2, v -> x.change(v, 0, 0));
        dueBeyond("change of what", 0, 6, v -> x.change(0, v, 0));
        for (int what = 0; what <= 6; what++) {
            int asked = what;
            dueBeyond("change to", 0, most[what], v -> x.change(2, asked, v));
        }
        dueBird(x, 2, 0, 0, 0, 0, 0, 0, 0, 0, 1);

        at(5, "A new MOTION: its number.");
        for (int m = 0; m < 7; m++) {
            due("motion", x.motion(3 - m % 4), m);
            due("colour", x.told(m, 0), 3 - m % 4);
        }
        at(5, "BEYOND: COLOUR.");
        dueBeyond("motion", 0, 3, v -> x.motion(v));
        due("motions", x.count(2), 7);
        at(5, "FULL.");
        due("the 8th", x.motion(0), 7);
        due("the 9th", x.motion(0), FULL);
        due("the 9th", x.motion(3), FULL);
        due("motions", x.count(2), 8);

        at(6, "Of a MOTION: what 0 COLOUR, 1 QUORUM, 2 WANTS, 3 EFFECT, 4 1 if LAW.");
        FeatherVotes y = state("bird has 9;bird;motion 3 quorum 99 wants 2 effect 4;motion 0 wants 1 effect 3");
        due("vote", y.vote(1), 1);
        dueMotion(y, 0, 3, 99, 2, 4, 0);
        dueMotion(y, 1, 0, 1, 1, 3, 1);
        at(6, "BEYOND.");
        dueBeyond("told of a motion", 0, 1, v -> y.told(v, 0));
        dueBeyond("told what", 0, 4, v -> y.told(0, v));

        at(7, "COLOUR (what 0), QUORUM (1), WANTS (2: of BIRDS that there are), EFFECT (3), LAW (4: 0, 1; no EFFECT comes)"
                + " of a MOTION becomes v: what it was.");
        int[] had = {0, 1, 1, 3, 1};
        int[] greatest = {3, 99, 3, 4, 1};
        for (int what = 0; what <= 4; what++) {
            due("tell", y.tell(1, what, greatest[what]), had[what]);
            due("as it is", y.tell(1, what, greatest[what]), greatest[what]);
        }
        dueMotion(y, 1, 3, 99, 3, 4, 1);
        due("no law", y.tell(1, 4, 0), 1);
        due("law", y.tell(1, 4, 1), 0);
        dueBird(y, 0, 0, 3, 1);
        for (int what = 0; what <= 4; what++) {
            due("tell", y.tell(1, what, 0), greatest[what]);
        }
        dueMotion(y, 1, 0, 0, 0, 0, 0);
        dueMotion(y, 0, 3, 99, 2, 4, 0);
        at(7, "BEYOND.");
        dueBeyond("tell of a motion", 0, 1, v -> y.tell(v, 0, 0));
        dueBeyond("tell what", 0, 4, v -> y.tell(0, v, 0));
        for (int what = 0; what <= 4; what++) {
            int asked = what;
            dueBeyond("tell", 0, greatest[what], v -> y.tell(1, asked, v));
        }
        dueMotion(y, 1, 0, 0, 0, 0, 0);
    }

    private static void promises8To14() {
        at(8, "DROPS of a BIRD for a MOTION now.");
        FeatherVotes x = state("bird;tern has 4;crow has 1;motion 0;motion 0 wants 2");
        due("holds none", x.drops(0, 0), 0);
        due("with a crow", x.drops(1, 0), 4);
        due("alone", x.drops(1, 1), 3);
        x.seasons(1);
        due("it grew", x.drops(0, 0), 1);
        due("it grew", x.drops(1, 0), 5);
        due("nothing changed", x.now(1), 8);
        at(8, "BEYOND.");
        dueBeyond("drops of a bird", 0, 2, v -> x.drops(v, 0));
        dueBeyond("drops for a motion", 0, 1, v -> x.drops(0, v));

        at(9, "What would be dropped for a MOTION (side 1), against it (0).");
        due("for", x.side(0, 1), 0);
        due("against: 1, 5, 2", x.side(0, 0), 8);
        due("for", x.side(1, 1), 3);
        due("against", x.side(1, 0), 2);
        x.tell(1, 2, 7);
        due("all for", x.side(1, 1), 8);
        due("none against", x.side(1, 0), 0);
        due("nothing changed", x.now(1), 8);
        at(9, "BEYOND.");
        dueBeyond("side of a motion", 0, 1, v -> x.side(v, 0));
        dueBeyond("side", 0, 1, v -> x.side(0, v));

        at(10, "1 if a MOTION would PASS now, else 0.");
        due("8 to 0", x.passes(1), 1);
        due("0 to 8", x.passes(0), 0);
        x.tell(1, 1, 8);
        due("quorum 8", x.passes(1), 1);
        x.tell(1, 1, 9);
        due("quorum 9", x.passes(1), 0);
        due("nothing changed", x.now(1) + x.now(2) + x.now(4), 8);
        FeatherVotes none = state("motion 0 quorum 0");
        due("no birds", none.passes(0), 0);
        at(10, "BEYOND.");
        dueBeyond("passes", 0, 1, v -> x.passes(v));

        at(11, "A VOTE on a MOTION: 1 if it PASSES, else 0.");
        due("quorum 9", x.vote(1), 0);
        due("dropped all the same", x.now(1), 0);
        due("at the foot", x.now(4), 8);
        due("no law", x.now(2), 0);
        x.change(0, 3, 1);
        x.tell(1, 1, 1);
        due("1 to 0", x.vote(1), 1);
        due("at the foot", x.now(4), 9);
        due("law", x.now(2), 2);
        due("no birds", none.vote(0), 0);
        at(11, "BEYOND.");
        dueBeyond("vote", 0, 1, v -> x.vote(v));
        promises12To14();
    }

    private static void promises12To14() {
        at(12, "n SEASONS (1 to 40) go by: FEATHERS of all then.");
        FeatherVotes x = state("bird has 90 grows 9;bird grows 1");
        due("1", x.seasons(1), 99 + 1);
        due("40", x.seasons(40), 99 + 3 * 90 + 41);
        due("season", x.now(0), 41);
        due("no birds", new FeatherVotes().seasons(40), 0);
        at(12, "BEYOND.");
        dueBeyond("seasons", 1, 40, v -> x.seasons(v));
        due("season", x.now(0), 41);
        at(12, "STATE: SEASON would be above 99999.");
        FeatherVotes late = lateObject();
        due("40", late.seasons(40), STATE);
        due("41", late.seasons(41), BEYOND);
        due("39 are the last", late.seasons(39), 0);
        due("season", late.now(0), 99999);
        due("one more", late.seasons(1), STATE);
        due("season", late.now(0), 99999);
        due("two", late.status(4), 2);

        at(13, "What 0 SEASON, 1 FEATHERS of all, 2 LAWS, as a set, 3 BIRDS that FLY, as a set, 4 to 7 at THE FOOT by COLOURS.");
        FeatherVotes y = state("season 998;bird has 9 9 9 9 keeps 32;bird keeps 0;bird;motion 3 wants 1;motion 3;motion 1 wants 1;motion 0 wants 1");
        due("who fly", y.now(3), 3);
        for (int m = 0; m < 4; m++) {
            y.vote(m);
        }
        y.vote(2);
        int[] want = {998, 31, 13, 2, 1, 2, 0, 2};
        for (int what = 0; what <= 7; what++) {
            due("now " + what, y.now(what), want[what]);
        }
        at(13, "BEYOND.");
        dueBeyond("now", 0, 7, v -> y.now(v));

        at(14, "THE FOOT is cleared: how many lay there.");
        due("all colours", y.clears(), 5);
        due("again", y.clears(), 0);
        due("none", y.now(4) + y.now(5) + y.now(6) + y.now(7), 0);
        due("feathers stay", y.now(1), 31);
        y.vote(3);
        due("one more", y.clears(), 1);
    }

    /** At season 99960, by more calls than the document promises anything for. */
    private static FeatherVotes lateObject() {
        FeatherVotes x = new FeatherVotes();
        for (int i = 0; i < 2499; i++) {
            x.seasons(40);
        }
        due("season", x.now(0), 99960);
        return x;
    }

    private static void promises15To20() {
        at(15, "Behind how many SEASONS (0 to 200, the fewest) a MOTION would PASS.");
        FeatherVotes x = state("tern;bird;motion 3 quorum 3 wants 1;motion 0 quorum 2 wants 3;motion 1 wants 2;motion 3 quorum 4 wants 1",
                "motion 0 quorum 5 wants 3;motion 0;motion 1 quorum 0 wants 3");
        due("twice colour 3, 2 to 1", x.when(0), 8);
        due("2 to 0", x.when(1), 1);
        due("1 to 3", x.when(2), NONE);
        due("thrice colour 3, 3 to 1", x.when(3), 12);
        due("at most 3 and 1", x.when(4), NONE);
        due("0 to 1", x.when(5), NONE);
        due("1 to 0", x.when(6), 2);
        x.seasons(1);
        due("now", x.when(1), 0);
        due("nothing changed", x.now(0) * 10 + x.now(1), 12);
        FeatherVotes y = state("wren keeps 99;bird has 99 99 99 99 grows 0;bird has 0 0 0 1 grows 0;motion 3 quorum 2 wants 5");
        due("2 to 1, once the wren has 100", y.when(0), 100);
        at(15, "BEYOND.");
        dueBeyond("when", 0, 6, v -> x.when(v));
        at(15, "NONE.");
        FeatherVotes none = state("motion 0 quorum 0;bird grows 0;motion 0 wants 1;motion 1 quorum 99");
        due("nobody for it", none.when(0), NONE);
        due("nothing grows", none.when(1), NONE);
        due("quorum", none.when(2), NONE);
        due("status", none.status(3), 3);

        at(16, "Behind how many SEASONS (0 to 200, the fewest) a BIRD FLIES.");
        FeatherVotes z = state("bird keeps 0 grows 0;bird keeps 99 grows 1;bird keeps 99 grows 9;bird has 2;bird has 1",
                "bird has 99 keeps 99 grows 0;bird has 98 keeps 99 grows 1;bird has 98 keeps 99 grows 0");
        int[] flying = {0, 99, 11, 0, 1, 0, 1, NONE};
        for (int b = 0; b < 8; b++) {
            due("flies " + b, z.flies(b), flying[b]);
        }
        due("nothing changed", z.now(0), 0);
        at(16, "BEYOND.");
        dueBeyond("flies", 0, 7, v -> z.flies(v));
        at(16, "NONE.");
        due("98 of 99, nothing grows", z.flies(7), NONE);
        due("status", z.status(3), 2);
        promises17And18();
        promises19And20();
    }

    private static void promises17And18() {
        at(17, "BIRDS that wouldn't FLY any more behind a VOTE on a MOTION, but do now, as a set (its EFFECT counts).");
        FeatherVotes x = state("bird has 2;bird has 3;bird has 1;bird has 0 2;motion 0 wants 3;motion 0 wants 3 effect 3;motion 0 wants 3 effect 4",
                "motion 0 quorum 4 wants 3 effect 3;motion 0 effect 4");
        due("2 becomes 1; the third doesn't fly now", x.plucked(0), 1);
        due("it keeps 3", x.plucked(1), 1 + 2 + 8);
        due("it keeps 1", x.plucked(2), 0);
        due("it doesn't pass", x.plucked(3), 1);
        due("it doesn't pass", x.plucked(4), 1);
        x.tell(1, 4, 1);
        due("a law has no effect any more", x.plucked(1), 1);
        due("nothing changed", x.now(1) * 100 + x.now(2), 802);
        due("no birds", state("motion 0").plucked(0), 0);
        at(17, "BEYOND.");
        dueBeyond("plucked", 0, 4, v -> x.plucked(v));

        at(18, "BIRDS each of whom, on the other side, would turn whether a MOTION PASSES, as a set.");
        FeatherVotes y = state("bird has 9;bird has 9;bird has 9;bird;crow has 9;crow has 9;motion 0 wants 7;motion 0 wants 3",
                "motion 0 quorum 6 wants 48;motion 0 quorum 99 wants 63;motion 0");
        due("3 to 2 and 2 crows: 3 to 4", y.hinges(0), 16 + 32);
        due("2 to 1 + 4: 3 to 4 or 3 to 2", y.hinges(1), 16 + 32);
        due("4 to 3: a bird makes it 5 to 2, a crow 1 to 4", y.hinges(2), 16 + 32);
        due("never", y.hinges(3), 0);
        due("none alone", y.hinges(4), 0);
        due("wants stay", y.told(0, 2), 7);
        FeatherVotes g = state("gull has 9;bird has 1;bird has 0;motion 0;motion 0 wants 2");
        due("2 + 1 against: the gull, then 1 to 1", g.hinges(0), 0);
        g.change(1, 3, 0);
        due("the gull", g.hinges(0), 1);
        due("no birds", state("motion 0").hinges(0), 0);
        at(18, "BEYOND.");
        dueBeyond("hinges", 0, 4, v -> y.hinges(v));
    }

    private static void promises19And20() {
        at(19, "How many sets of BIRDS (none and all, too) are such that, if WANTS were that, a MOTION would PASS.");
        FeatherVotes x = state("bird has 9;bird has 9;bird has 9;motion 0 wants 1;motion 0 quorum 3 wants 7;motion 0 quorum 4;motion 1 quorum 0");
        due("2 or 3 of 3", x.sets(0), 4);
        due("quorum 3", x.sets(1), 4);
        due("quorum 4", x.sets(2), 0);
        due("nothing to drop", x.sets(3), 0);
        due("wants stay", x.told(0, 2), 1);
        due("no birds", state("motion 0 quorum 0").sets(0), 0);
        FeatherVotes crows = state("crow has 9;crow has 9;crow has 9;motion 0 quorum 9");
        due("all, alone", crows.sets(0), 1);
        FeatherVotes eight = state("bird has 1;bird has 1;bird has 1;bird has 1;bird has 1;bird has 1;bird has 1;bird;motion 0");
        due("4 and more of 7, the 8th or not", eight.sets(0), 128);
        at(19, "BEYOND.");
        dueBeyond("sets", 0, 3, v -> x.sets(v));

        at(20, "In how many of these a BIRD is, without whom (if WANTS were all others of it) it wouldn't PASS.");
        due("with one of two", x.power(0, 0), 2);
        due("with one of two", x.power(2, 0), 2);
        due("none passes", x.power(0, 2), 0);
        due("all of them", crows.power(1, 0), 1);
        due("with 3 of the other 6, the 8th or not", eight.power(6, 0), 40);
        due("it drops none", eight.power(7, 0), 0);
        due("wants stay", x.told(0, 2), 1);
        at(20, "BEYOND.");
        dueBeyond("power of a bird", 0, 2, v -> x.power(v, 0));
        dueBeyond("power for a motion", 0, 3, v -> x.power(0, v));
    }

    private static void promises21To24() {
        at(21, "The set of fewest BIRDS that must come to the side for a MOTION (besides WANTS) so that it PASSES (0: it does);"
                + " of several the least.");
        FeatherVotes x = state("bird has 9;bird has 9;bird has 9;bird has 9;bird has 9;motion 0;motion 0 wants 16;motion 0 wants 7",
                "motion 0 quorum 6;motion 0 quorum 5 wants 1;motion 0 wants 9");
        due("three of five", x.won(0), 7);
        due("two more", x.won(1), 3);
        due("it does", x.won(2), 0);
        due("two more", x.won(4), 6);
        due("one more", x.won(5), 2);
        x.change(1, 0, 4);
        due("the tern: 1 and 3 to 3", x.won(1), 2);
        due("3 and 1 to 3", x.won(0), 3);
        due("wants stay", x.told(1, 2), 16);
        FeatherVotes eight = state("crow has 9;crow has 9;crow has 9;crow has 9;crow has 9;crow has 9;crow has 9;crow has 9;motion 0 quorum 64");
        due("all of them", eight.won(0), 255);
        at(21, "BEYOND.");
        dueBeyond("won", 0, 5, v -> x.won(v));
        at(21, "NONE.");
        due("at most 6 and 4", state("bird has 1;motion 0 quorum 2").won(0), NONE);
        due("no birds", state("motion 0 quorum 0").won(0), NONE);
        due("nothing to drop", state("bird;motion 0 quorum 0").won(0), NONE);

        at(22, "The COLOUR for which a MOTION would PASS with the fewest dropped; of several the least.");
        FeatherVotes y = state("tern has 9 9 2 2;bird has 1 0 0 0;motion 0 wants 1;motion 3 quorum 3 wants 1;motion 2 quorum 4 wants 1",
                "motion 1 quorum 5 wants 1;motion 1 wants 2");
        due("4, 3, 2, 2", y.colour(0), 2);
        due("4, 3", y.colour(1), 1);
        due("4", y.colour(2), 0);
        y.change(0, 6, 1);
        due("4, 3, 2, 1", y.colour(0), 3);
        y.change(1, 6, 1);
        due("1 to 1", y.colour(0), 2);
        due("colour stays", y.told(0, 0), 0);
        due("swans", state("swan has 9 9 9 9;motion 3 wants 1").colour(0), 0);
        at(22, "BEYOND.");
        dueBeyond("colour", 0, 4, v -> y.colour(v));
        at(22, "NONE.");
        due("quorum", y.colour(3), NONE);
        due("fewer for it", y.colour(4), NONE);
        due("no birds", state("motion 0 quorum 0").colour(0), NONE);
        promises23And24();
    }

    private static void promises23And24() {
        at(23, "The KIND as which a BIRD lets most MOTIONS PASS (each by itself, now).");
        FeatherVotes x = state("bird has 3 3;bird has 9 9;motion 0 wants 1;motion 0 quorum 3 wants 1;motion 0 quorum 4 wants 1",
                "motion 1 wants 2");
        due("as a raven, 2 to 1: two; as a swan one; as a tern 3 to 1: three", x.kindFor(0), 4);
        x.tell(2, 1, 5);
        due("as a raven or a tern: two, and as a swan one", x.kindFor(0), 3);
        x.tell(1, 1, 99);
        x.tell(2, 1, 99);
        due("as a swan one, as a raven one", x.kindFor(0), 1);
        x.tell(3, 1, 99);
        due("as a raven one", x.kindFor(0), 3);
        x.tell(0, 1, 99);
        due("none at all", x.kindFor(0), 0);
        due("kind stays", x.of(0, 0), 0);
        due("no motions", state("gull").kindFor(0), 0);
        FeatherVotes each = state("bird has 2;bird has 1;motion 0 wants 1;motion 0 wants 1;motion 0 wants 1");
        due("each by itself, though 2 are not enough for three", each.kindFor(0), 3);
        at(23, "BEYOND.");
        dueBeyond("kindFor", 0, 1, v -> x.kindFor(v));

        at(24, "The greatest QUORUM (0 to 99) with which a MOTION would PASS.");
        FeatherVotes y = state("tern has 99;bird has 1;motion 0 wants 1;motion 0 quorum 99 wants 3;motion 0 wants 2;motion 1 quorum 0 wants 3");
        due("3 and 1", y.quorum(0), 4);
        due("whatever it is", y.quorum(1), 4);
        due("quorum stays", y.told(1, 1), 99);
        // six terns drop 13 each, five with a crow of 6, 11 each and the crow
        FeatherVotes six = state("tern has 99;tern has 99;tern has 99;tern has 99;tern has 99;tern has 99;tern has 98;bird has 1;motion 0 wants 63");
        due("6 * 13 and 3 and 1", six.quorum(0), 82);
        six.tell(0, 2, 127);
        due("7 * 15 and 1: 99 at most", six.quorum(0), 99);
        FeatherVotes hundred = state("tern has 99;tern has 99;tern has 99;tern has 99;tern has 99;tern has 99;tern has 8;bird has 1;motion 0 wants 127");
        due("6 * 15 and 8 and 1", hundred.quorum(0), 99);
        hundred.change(6, 3, 7);
        due("6 * 15 and 7 and 1", hundred.quorum(0), 98);
        hundred.change(6, 3, 9);
        due("6 * 15 and 9 and 1", hundred.quorum(0), 99);
        at(24, "BEYOND.");
        dueBeyond("quorum", 0, 3, v -> y.quorum(v));
        at(24, "NONE: not with 0.");
        due("1 to 3", y.quorum(2), NONE);
        due("0 to 0", y.quorum(3), NONE);
        due("no birds", state("motion 0").quorum(0), NONE);
    }

    private static void promises25To28() {
        at(25, "How many MOTIONS of a set (at most 5) PASS, if they are an AGENDA in the best order (that by which most do; of several"
                + " the first, by rows of MOTIONS).");
        // The wren keeps 1 more behind motion 1, and then it no longer drops against motion 0.
        FeatherVotes x = state("bird has 4;wren has 4 keeps 2;motion 0 wants 1;motion 0 wants 3 effect 3;motion 1;motion 2;motion 3");
        x.motion(1);
        due("none", x.agenda(0), 0);
        due("1 ahead of 0", x.agenda(3), 2);
        due("0 alone: 1 to 1", x.agenda(1), 0);
        due("1 alone", x.agenda(2), 1);
        due("five", x.agenda(31), 2);
        due("nothing changed", x.now(1) * 10 + x.now(2), 80);
        at(25, "BEYOND: no such set, more than 5.");
        due("six", x.agenda(63), BEYOND);
        dueBeyond("agenda", 0, 63, v -> x.agenda(v));
        due("none of none", new FeatherVotes().agenda(0), 0);
        due("one of none", new FeatherVotes().agenda(1), BEYOND);
        FeatherVotes full = state("bird has 9 9 9 9", EIGHT_MOTIONS);
        for (int m = 0; m < 8; m++) {
            full.tell(m, 2, 1);
        }
        due("the last five", full.agenda(0xf8), 5);
        due("any five", full.agenda(0x55 + 2), 5);
        due("six", full.agenda(0xfc), BEYOND);
        due("all", full.agenda(255), BEYOND);
        due("a 9th", full.agenda(256), BEYOND);

        at(26, "The i-th MOTION of that.");
        due("first", x.ith(3, 0), 1);
        due("second", x.ith(3, 1), 0);
        int[] best = {1, 0, 2, 3, 4};
        for (int i = 0; i < 5; i++) {
            due("of five", x.ith(31, i), best[i]);
            due("of the last five", full.ith(0xf8, i), 3 + i);
        }
        due("of one", full.ith(0x80, 0), 7);
        at(26, "BEYOND: likewise, i is not one of it.");
        dueBeyond("ith of five", 0, 4, v -> x.ith(31, v));
        dueBeyond("ith of two", 0, 1, v -> x.ith(3, v));
        due("of none", x.ith(0, 0), BEYOND);
        due("six", x.ith(63, 0), BEYOND);
        dueBeyond("ith", 0, 63, v -> x.ith(v, 0));

        at(27, "How many orders bring as many.");
        due("none: one order", x.ways(0), 1);
        due("one", x.ways(1), 1);
        due("1 ahead of 0", x.ways(3), 1);
        due("1 ahead of 0, half of 120", x.ways(31), 60);
        due("0 and two that never pass", x.ways(13), 6);
        due("all orders", full.ways(0xf8), 120);
        at(27, "BEYOND likewise.");
        due("six", x.ways(63), BEYOND);
        dueBeyond("ways", 0, 63, v -> x.ways(v));

        at(28, "FEATHERS that are left in all behind the AGENDA of the first best order.");
        due("none: all", x.left(0), 8);
        due("1 to 1", x.left(1), 6);
        due("2 to 0, then 1 to 0", x.left(3), 5);
        due("2 to 0, then 1 to 0, no others", x.left(31), 5);
        due("five", full.left(0xf8), 31);
        due("no birds", new FeatherVotes().left(0), 0);
        FeatherVotes y = state("bird has 2;wren has 3;motion 0 wants 1;motion 0 quorum 2 wants 1");
        due("1 to 1, then 1 to 0, or 1 to 1, then 1 of 2", y.agenda(3), 1);
        due("the second one first", y.ith(3, 0), 1);
        due("left", y.left(3), 2);
        due("nothing changed", y.now(1), 5);
        at(28, "BEYOND likewise.");
        due("six", x.left(63), BEYOND);
        dueBeyond("left", 0, 63, v -> x.left(v));
    }

    private static void promises29To32() {
        at(29, "The odds that of what would be dropped for and against a MOTION none is carried off, each by w (0 to 10) tenths by itself:"
                + " a fraction in lowest terms: above (what 0), below the line (1).");
        FeatherVotes x = state("bird has 9;bird has 9;bird;motion 0 wants 1;motion 1;motion 0 quorum 99 wants 4");
        long[] above = {1, 81, 16, 49, 9, 1, 4, 9, 1, 1, 0};
        long[] below = {1, 100, 25, 100, 25, 4, 25, 100, 25, 100, 1};
        for (int w = 0; w <= 10; w++) {
            due("above, " + w, x.wind(0, w, 0), above[w]);
            due("below, " + w, x.wind(0, w, 1), below[w]);
            due("both against", x.wind(2, w, 0), above[w]);
            due("nothing dropped", x.wind(1, w, 0), 1);
            due("nothing dropped", x.wind(1, w, 1), 1);
        }
        due("nothing changed", x.now(1), 18);
        at(29, "BEYOND.");
        dueBeyond("wind on a motion", 0, 2, v -> x.wind(v, 1, 0));
        dueBeyond("wind of", 0, 10, v -> x.wind(0, v, 0));
        dueBeyond("wind, what", 0, 1, v -> x.wind(0, 1, v));
        at(29, "SIZE: more than 15 would be dropped.");
        FeatherVotes y = state("crow has 4;crow has 4;crow has 4;crow has 3;motion 0;motion 0 wants 3");
        due("15", y.wind(0, 9, 1), 1000000000000000L);
        due("15", y.wind(0, 9, 0), 1);
        due("15", y.wind(0, 3, 0), 4747561509943L);
        due("15", y.wind(0, 1, 0), 205891132094649L);
        due("15", y.wind(0, 5, 1), 32768);
        y.change(3, 3, 4);
        for (int w = 0; w <= 10; w++) {
            due("16", y.wind(0, w, 0), SIZE);
            due("16", y.wind(0, w, 1), SIZE);
        }
        due("4 and 4", y.wind(1, 9, 1), 100000000);

        at(30, "MOTIONS for which what would be dropped for and against is the first and the second number of a sheet (one that lacks"
                + " is any; others don't count), as a set.");
        FeatherVotes z = state("bird has 1 1;bird has 1;crow has 2;motion 0 wants 1;motion 0 wants 6;motion 1 wants 1;motion 3;motion 0 wants 3");
        row(z, 0, 8, 1, 2);
        due("1 to 2", z.fits(0), 1);
        row(z, 0, 16, 2, 1);
        due("2 to 1", z.fits(0), 2 + 16);
        row(z, 0, 32, 1);
        due("1 to any", z.fits(0), 1 + 4);
        row(z, 0, 32);
        due("any", z.fits(0), 31);
        row(z, 3, 8, 0, 0, 5, 6, 7);
        due("0 to 0", z.fits(3), 8);
        row(z, 3, 8, 256 + 1, 256 + 2);
        due("their lowest bits", z.fits(3), 1);
        due("no motions", emptyRow(new FeatherVotes()).fits(0), 0);
        at(30, "BEYOND: no such sheet.");
        dueBeyond("fits", 0, 3, v -> z.fits(v));
        at(30, "MISSING.");
        due("never made", z.fits(1), MISSING);
        z.sheet(0, 0, 5);
        due("taken away", z.fits(0), MISSING);
        promise31();
        promise32();
    }

    private static FeatherVotes emptyRow(FeatherVotes x) {
        x.sheet(0, 8, 0);
        return x;
    }

    private static void promise31() {
        at(31, "BIRDS, as a set, whose FEATHERS of COLOURS 0 to 3, v (0 to 9) of each being stolen (as far as there are so many), would"
                + " be the first four numbers of a sheet (one that lacks is any; others don't count).");
        FeatherVotes x = state("bird has 9 5 0 99;bird has 9 4 9 99;bird has 8;bird has 10 10 10 10");
        row(x, 0, 8, 9, 5, 0, 99);
        due("none stolen", x.stolen(0, 0), 1);
        row(x, 0, 8, 0, 0, 0, 90);
        due("9 of each", x.stolen(0, 9), 3);
        row(x, 0, 8, 0, 0, 0, 0, 77);
        due("9 of each", x.stolen(0, 9), 4);
        row(x, 0, 8, 1, 1, 1, 1);
        due("9 of each", x.stolen(0, 9), 8);
        row(x, 0, 8, 4, 0);
        due("5 of each", x.stolen(0, 5), 3);
        row(x, 0, 8, 0, 0, 0);
        due("9 of each, any of colour 3", x.stolen(0, 9), 7);
        row(x, 0, 8, 1);
        due("8 of each", x.stolen(0, 8), 3);
        row(x, 0, 8);
        due("any", x.stolen(0, 0), 15);
        due("nothing changed", x.of(0, 7), 113);
        due("no birds", emptyRow(new FeatherVotes()).stolen(0, 9), 0);
        at(31, "BEYOND: no such sheet.");
        dueBeyond("stolen", 0, 3, v -> x.stolen(v, 0));
        at(31, "MISSING.");
        due("never made", x.stolen(3, 0), MISSING);
        due("ahead of v", x.stolen(3, -1), MISSING);
        at(31, "BEYOND: v.");
        dueBeyond("stolen", 0, 9, v -> x.stolen(0, v));
    }

    private static void promise32() {
        at(32, "n times (1 to 20): a SEASON; then, if there are MOTIONS, a VOTE on that of the number that is the rest of a draw by how"
                + " many there are: how many PASSED.");
        FeatherVotes x = state("bird");
        due("no motions", x.years(20), 0);
        due("no draws", x.count(6), 1);
        due("20 seasons", x.now(0) * 100 + x.now(1), 2020);
        x.motion(0);
        x.tell(0, 2, 1);
        due("5 feathers of colour 0, and 5 seasons of it", x.years(20), 10);
        due("season", x.now(0), 40);
        due("foot", x.now(4), 10);
        due("z behind 20 draws", x.count(6), behind(1, 20));
        FeatherVotes first = state("bird;motion 0 wants 1");
        due("the season first", first.years(1), 1);
        FeatherVotes three = state("motion 0;motion 1;motion 2;bird has 9 9 9 9 grows 0");
        // z: 1103527590, 2524885223, 662824084: z >>> 8 by 3 leaves 2, 2, 0
        due("nobody for it", three.years(3), 0);
        due("foot", three.now(4) * 100 + three.now(5) * 10 + three.now(6), 102);
        FeatherVotes none = state("motion 0;motion 0");
        due("no birds", none.years(2), 0);
        due("draws all the same", none.count(6), behind(1, 2));
        at(32, "BEYOND.");
        dueBeyond("years", 1, 20, v -> x.years(v));
        due("season", x.now(0), 40);
        at(32, "STATE: SEASON would be above 99999.");
        FeatherVotes late = lateObject();
        late.seasons(20);
        due("20", late.years(20), STATE);
        due("21", late.years(21), BEYOND);
        due("season", late.now(0), 99980);
        due("19 are the last", late.years(19), 0);
        due("one more", late.years(1), STATE);
        due("season", late.now(0), 99999);
    }

    private static int behind(int z, int draws) {
        long drawn = z;
        for (int i = 0; i < draws; i++) {
            drawn = (drawn * 1103515245L + 12345L) & 0xffffffffL;
        }
        return (int) drawn;
    }

    private static void promises33To36() {
        at(33, "z becomes v: what it was.");
        FeatherVotes x = new FeatherVotes();
        due("at first", x.seed(MAX), 1);
        due("the greatest", x.seed(MIN), MAX);
        due("the least", x.seed(0), MIN);
        due("z", x.count(6), 0);

        at(34, "THE TAPE gets the n lowest bytes of a number behind it, the highest of these first (n 1 to 4): how many it has.");
        due("four", x.feed(0x62697264, 4), 4);
        due("three", x.feed(0xff3b6269, 3), 7);
        due("two", x.feed(0x7fff7264, 2), 9);
        due("one", x.feed(0xffffff3b, 1), 10);
        due("one", x.feed('x', 1), 11);
        due("'bird;bird;x'", x.text(), -11);
        due("from below 0", x.feed(-1, 4), 4);
        due("255 begins no token", x.text(), -1);
        at(34, "BEYOND: n.");
        dueBeyond("feed", 1, 4, v -> x.feed(0x20202020, v));
        due("nothing came", x.count(5), 0);
        at(34, "FULL.");
        for (int i = 1; i <= 29; i++) {
            due("feed", x.feed(0x20202020, 4), 4 * i);
        }
        due("117", x.feed(0x20, 1), 117);
        due("121", x.feed(0x20202020, 4), FULL);
        due("none of it came", x.count(5), 117);
        due("120", x.feed(0x202020, 3), 120);
        for (int n = 1; n <= 4; n++) {
            due("full", x.feed(0x20202020, n), FULL);
        }
        due("bytes", x.count(5), 120);

        at(35, "THE TAPE is empty: how many it had.");
        due("full", x.wipe(), 120);
        due("again", x.wipe(), 0);
        due("bytes", x.count(5), 0);
        dueText(x, "bird", 1);
        due("behind a text", x.wipe(), 0);
        x.feed('x', 1);
        due("one", x.wipe(), 1);
        dueText(x, "bird", 1);

        at(36, "THE TAPE is a TEXT, and empty then; all that it tells is so, item by item: how many ITEMS.");
        FeatherVotes y = new FeatherVotes();
        dueText(y, "motion 0 wants 0;bird has 3;motion 1 wants 1;swan;motion 2 wants 3;season 5;season 6", 7);
        due("empty", y.count(5), 0);
        dueMotion(y, 1, 1, 1, 1, 0, 0);
        dueMotion(y, 2, 2, 1, 3, 0, 0);
        due("birds, motions, season", y.count(1) * 100 + y.count(2) * 10 + y.count(0), 236);
        due("at once again", y.text(), -1);
        dueText(y, "bird", 1);
        due("one more", y.count(1), 3);
        at(36, "With a FAULT: -1 less the FAULT (nothing changes but that THE TAPE is empty; no finding).");
        dueFault(y, "bird;season 9;motion 3;bird has 99 99 99 99 keeps 9 grows 9;x", 60);
        due("empty", y.count(5), 0);
        due("birds, motions, season", y.count(1) * 100 + y.count(2) * 10 + y.count(0), 336);
        due("feathers", y.now(1), 3);
        due("a new bird is as at first", y.bird(0), 3);
        dueBird(y, 3, 0, 2, 1, 0, 0, 0, 0);
        due("a new motion is as at first", y.motion(1), 3);
        dueMotion(y, 3, 1, 1, 0, 0, 0);
        due("no finding", y.status(-1), 0);
    }

    private static void promises37To43() {
        at(37, "A SPOT holds a BIRD, or nothing (-1): 1.");
        FeatherVotes x = state("bird;swan");
        due("nothing", x.hold(0, -1), 1);
        due("still nothing", x.count(7), 0);
        due("a bird", x.hold(0, 1), 1);
        due("another", x.hold(0, 0), 1);
        due("it", x.as(0, 0), 0);
        due("the same in another spot", x.hold(9, 0), 1);
        due("spots", x.count(7), 2);
        due("nothing", x.hold(0, -1), 1);
        due("spots", x.count(7), 1);
        at(37, "BEYOND.");
        dueBeyond("hold in", 0, 9, v -> x.hold(v, 0));
        dueBeyond("hold nothing in", 0, 9, v -> x.hold(v, -1));
        dueBeyond("hold", -1, 1, v -> x.hold(9, v));
        due("stays", x.as(9, 0), 0);

        at(38, "What a SPOT holds as one of a kind (0 to 6): the number of the BIRD.");
        x.hold(3, 1);
        due("a swan as a bird", x.as(3, 0), 1);
        due("a swan", x.as(3, 1), 1);
        at(38, "BEYOND.");
        dueBeyond("as of a spot", 0, 9, v -> x.as(v, 0));
        dueBeyond("as one of", 0, 6, v -> x.as(3, v));
        at(38, "MISSING: it holds nothing.");
        for (int kind = 0; kind <= 6; kind++) {
            due("nothing", x.as(0, kind), MISSING);
        }
        at(38, "KIND: it isn't of that kind, nor of one under it.");
        for (int kind = 2; kind <= 6; kind++) {
            due("a swan", x.as(3, kind), KIND);
        }
        due("a bird as a swan", x.as(9, 1), KIND);
        x.change(1, 0, 4);
        int[] tern = {1, KIND, 1, 1, 1, KIND, KIND};
        for (int kind = 0; kind <= 6; kind++) {
            due("a tern now", x.as(3, kind), tern[kind]);
        }
        promises39And40();
        promise41();
        promises42And43();
    }

    private static void promises39And40() {
        at(39, "A sheet has n numbers, all 0, of 8, 16 or 32 bits; bits 0: it is MISSING: n (0 if it is MISSING).");
        FeatherVotes x = state(EIGHT_BIRDS);
        for (int bits = 8; bits <= 32; bits *= 2) {
            due("none", x.sheet(2, bits, 0), 0);
            due("none came", x.load(2), 0);
            due("one", x.sheet(2, bits, 1), 1);
            due("40", x.sheet(2, bits, 40), 40);
            dueLoaded(x, 2, 0, 0, 0, 0, 0, 0, 0, 0);
            row(x, 2, bits, 1, 2, 3);
            due("all 0 again", x.sheet(2, bits, 3), 3);
            dueLoaded(x, 2, 0, 0, 0);
            due("one", x.write(2, 2, 300), 1);
            due("of its bits", x.load(2), bits == 8 ? 3 : 2);
            due("missing", x.sheet(2, 0, 40), 0);
            due("missing", x.load(2), MISSING);
            due("missing", x.sheet(2, 0, 0), 0);
        }
        at(39, "BEYOND: no such sheet, other bits.");
        row(x, 1, 8, 7);
        dueBeyond("sheet", 0, 3, v -> x.sheet(v, 8, 1));
        for (int bits : new int[] {-1, 1, 7, 9, 15, 17, 24, 31, 33, 64, 256 + 8, -8, MIN, MAX}) {
            due("bits " + bits, x.sheet(1, bits, 1), BEYOND);
        }
        dueLoaded(x, 1, 7);
        at(39, "SIZE: n is below 0 (also with bits 0).");
        for (int n : new int[] {-1, -41, MIN}) {
            for (int bits : new int[] {0, 8, 16, 32}) {
                due("n " + n, x.sheet(1, bits, n), SIZE);
            }
        }
        dueLoaded(x, 1, 7);
        at(39, "BEYOND: n is above 40 (also with bits 0).");
        for (int n : new int[] {41, 256, MAX}) {
            for (int bits : new int[] {0, 8, 16, 32}) {
                due("n " + n, x.sheet(1, bits, n), BEYOND);
            }
        }
        dueLoaded(x, 1, 7);

        at(40, "Number i of a sheet becomes v (its lowest bits): 1.");
        row(x, 0, 8, 0, 0, 0);
        due("8 bits", x.write(0, 0, 0x7fffff05), 1);
        due("8 bits", x.write(0, 1, MIN + 99), 1);
        due("8 bits", x.write(0, 2, -256), 1);
        dueLoaded(x, 0, 5, 99, 0);
        row(x, 0, 16, 0x7fff0005, MIN + 99, -65536);
        dueLoaded(x, 0, 5, 99, 0);
        row(x, 0, 16, 5, 256 + 5);
        dueLoaded(x, 0, 5);
        row(x, 0, 32, 99, 5, 65536 + 5);
        dueLoaded(x, 0, 99, 5);
        x.sheet(0, 8, 40);
        due("the first", x.write(0, 0, 1), 1);
        due("the last", x.write(0, 39, 1), 1);
        at(40, "BEYOND: no such sheet.");
        dueBeyond("write", 0, 3, v -> x.write(v, 0, 0));
        at(40, "MISSING.");
        due("missing", x.write(3, 0, 0), MISSING);
        due("ahead of the number", x.write(3, -1, 0), MISSING);
        at(40, "BEYOND: no such number.");
        dueBeyond("number", 0, 39, v -> x.write(0, v, 0));
        x.sheet(0, 8, 1);
        dueBeyond("number", 0, 0, v -> x.write(0, v, 0));
        x.sheet(0, 8, 0);
        due("none", x.write(0, 0, 0), BEYOND);
    }

    private static void promise41() {
        at(41, "n numbers of a sheet from one on come to another one from one on (as they all were): n.");
        FeatherVotes x = state(EIGHT_BIRDS);
        row(x, 0, 8, 1, 2, 3, 4, 5);
        row(x, 1, 8, 6, 7, 8);
        due("some", x.copy(0, 3, 1, 1, 2), 2);
        dueLoaded(x, 1, 6, 4, 5);
        due("all", x.copy(1, 0, 0, 2, 3), 3);
        dueLoaded(x, 0, 1, 2, 6, 4, 5);
        due("forth in itself", x.copy(0, 0, 0, 1, 4), 4);
        dueLoaded(x, 0, 1, 1, 2, 6, 4);
        due("back in itself", x.copy(0, 1, 0, 0, 4), 4);
        dueLoaded(x, 0, 1, 2, 6, 4, 4);
        due("onto itself", x.copy(0, 0, 0, 0, 5), 5);
        due("none", x.copy(0, 0, 1, 0, 0), 0);
        due("none from the end", x.copy(0, 5, 1, 3, 0), 0);
        dueLoaded(x, 0, 1, 2, 6, 4, 4);
        dueLoaded(x, 1, 6, 4, 5);
        row(x, 2, 16, -1, 256, 3);
        row(x, 3, 16, 0, 0, 0);
        due("of 16 bits", x.copy(2, 1, 3, 1, 2), 2);
        due("256", x.load(3), 1);
        due("3", x.write(3, 1, 9), 1);
        dueLoaded(x, 3, 0, 9, 3);
        at(41, "BEYOND: no such sheet (either).");
        dueBeyond("copy from", 0, 3, v -> x.copy(v, 0, 0, 0, 0));
        dueBeyond("copy to", 0, 3, v -> x.copy(0, 0, v, 0, 0));
        at(41, "MISSING: one is.");
        x.sheet(3, 0, 0);
        due("this", x.copy(3, 0, 0, 0, 0), MISSING);
        due("that", x.copy(0, 0, 3, 0, 0), MISSING);
        due("both", x.copy(3, 0, 3, 0, 0), MISSING);
        at(41, "KIND: they are not of as many bits.");
        int[] bits = {8, 16, 32};
        for (int from : bits) {
            for (int to : bits) {
                x.sheet(2, from, 1);
                x.sheet(3, to, 1);
                due("of " + from + " to " + to, x.copy(2, 0, 3, 0, 1), from == to ? 1 : KIND);
                due("ahead of the numbers", x.copy(2, 0, 3, 0, 2), from == to ? BEYOND : KIND);
            }
        }
        at(41, "BEYOND: one has not so many, or from, to or n is below 0.");
        due("this has not", x.copy(1, 0, 0, 0, 4), BEYOND);
        due("this has not", x.copy(1, 1, 0, 0, 3), BEYOND);
        due("this has not", x.copy(1, 3, 0, 0, 1), BEYOND);
        due("this has not", x.copy(1, 4, 0, 0, 0), BEYOND);
        due("that has not", x.copy(0, 0, 1, 0, 4), BEYOND);
        due("that has not", x.copy(0, 0, 1, 1, 3), BEYOND);
        due("that has not", x.copy(0, 0, 1, 3, 1), BEYOND);
        due("that has not", x.copy(0, 0, 1, 4, 0), BEYOND);
        dueBeyond("from", 0, 3, v -> x.copy(1, v, 0, 0, 0));
        dueBeyond("to", 0, 3, v -> x.copy(0, 0, 1, v, 0));
        dueBeyond("n", 0, 3, v -> x.copy(0, 0, 1, 0, v));
        due("a sum that wraps around", x.copy(0, MAX, 1, 0, MAX), BEYOND);
        due("a sum that wraps around", x.copy(0, 1, 1, 0, MAX), BEYOND);
        due("a sum that wraps around", x.copy(0, 0, 1, MAX, MAX), BEYOND);
        dueLoaded(x, 0, 1, 2, 6, 4, 4);
        dueLoaded(x, 1, 6, 4, 5);
    }

    private static void promises42And43() {
        at(42, "Numbers of a sheet, from its begin on, become FEATHERS of COLOUR 0 of BIRDS 0, 1, ..: how many came.");
        FeatherVotes x = state("bird has 1 1 1 1;bird has 2;bird has 3");
        row(x, 0, 8, 0, 99, 50);
        due("three", x.load(0), 3);
        dueBird(x, 0, 0, 2, 1, 0, 1, 1, 1);
        due("99", x.of(1, 3), 99);
        due("50", x.of(2, 3), 50);
        at(42, "It ends at the first that isn't 0 to 99, or for which there is no BIRD.");
        row(x, 0, 8, 7, 100, 8);
        due("100", x.load(0), 1);
        row(x, 0, 8, 6, 5, -1);
        due("-1", x.load(0), 2);
        due("stays", x.of(2, 3), 50);
        row(x, 0, 8, 100, 1, 1);
        due("at once", x.load(0), 0);
        row(x, 0, 8, 1, 2, 3, 4, 5);
        due("three birds", x.load(0), 3);
        row(x, 0, 8);
        due("no numbers", x.load(0), 0);
        FeatherVotes none = new FeatherVotes();
        row(none, 0, 8, 1);
        due("no birds", none.load(0), 0);
        FeatherVotes eight = state(EIGHT_BIRDS);
        eight.sheet(0, 8, 40);
        due("eight birds", eight.load(0), 8);
        at(42, "BEYOND: no such sheet.");
        dueBeyond("load", 0, 3, v -> x.load(v));
        at(42, "MISSING.");
        due("missing", x.load(3), MISSING);

        at(43, "THE READER: numbers of a sheet are an AGENDA: how many would PASS.");
        FeatherVotes y = state("bird has 5;bird has 2;motion 0 wants 1;motion 0 quorum 2 wants 3 effect 1;motion 3 wants 1", "motion 0;motion 0;motion 0;motion 0;motion 0");
        row(y, 0, 8, 0, 0, 0, 0, 0);
        due("1 to 1 twice, then 1 to 0 thrice", y.judge(0), 3);
        row(y, 0, 8, 1, 1, 1);
        due("2 to 0 twice, then 1 of quorum 2", y.judge(0), 2);
        row(y, 0, 8, 7, 6, 5, 4, 3, 2);
        due("none", y.judge(0), 0);
        y.sheet(0, 32, 40);
        due("40", y.judge(0), 3);
        y.sheet(0, 32, 0);
        due("no numbers", y.judge(0), 0);
        due("nothing changed", y.now(1) * 10 + y.now(2) + y.now(4), 70);
        due("nothing changed", y.of(0, 2), 1);
        due("no motions", emptyRow(new FeatherVotes()).judge(0), 0);
        at(43, "BEYOND: no such sheet.");
        dueBeyond("judge", 0, 3, v -> y.judge(v));
        at(43, "MISSING.");
        due("missing", y.judge(1), MISSING);
        at(43, "STATE: one is no MOTION.");
        row(y, 0, 8, 0, 8);
        due("8", y.judge(0), STATE);
        row(y, 0, 8, -1, 0);
        due("-1", y.judge(0), STATE);
        y.sheet(0, 32, 40);
        y.write(0, 39, MAX);
        due("the last", y.judge(0), STATE);
        row(none, 0, 8, 0);
        due("no motions", none.judge(0), STATE);
    }

    private static void promises44To48() {
        at(44, "All but THE TAPE and SHEETS is kept: 1.");
        FeatherVotes x = state("raven has 9 8 7 6 keeps 5 grows 4;motion 0 quorum 2 wants 1 effect 1;season 7");
        x.hold(4, 0);
        x.seed(-5);
        due("vote: 2 to 0", x.vote(0), 1);
        due("image", x.image(), 1);
        due("again", x.image(), 1);
        dueText(x, "gull has 1;motion 3 wants 2", 2);
        x.vote(1);
        x.clears();
        x.years(5);
        x.hold(4, -1);
        x.hold(5, 1);
        for (int what = 0; what <= 6; what++) {
            x.change(0, what, what == 0 ? 1 : 0);
        }
        for (int what = 0; what <= 4; what++) {
            x.tell(0, what, what == 0 ? 1 : 0);
        }
        row(x, 0, 8, 3);
        x.feed(0x62697264, 4);
        at(45, "It becomes what was kept latest (which stays): SEASON.");
        for (int again = 0; again < 2; again++) {
            due("season", x.undo(), 7);
            dueBird(x, 0, 3, 5, 5, 7, 8, 7, 6, 28, 1);
            dueMotion(x, 0, 0, 2, 1, 1, 1);
            int[] counts = {7, 1, 1, 1, 28, 4, -5, 1};
            for (int what = 0; what <= 7; what++) {
                due("count " + what, x.count(what), counts[what]);
            }
            due("foot", x.now(4) * 1000 + x.now(5) + x.now(6) + x.now(7), 2000);
            due("spot", x.as(4, 3), 0);
            x.bird(0);
            x.motion(2);
            x.hold(9, 1);
            x.seasons(3);
            x.seed(9);
            x.vote(0);
        }
        x.undo();
        due("sheets stay", x.load(0), 1);
        due("it had 3", x.of(0, 3), 3);
        due("the tape stays", x.text(), 1);
        x.image();
        x.seasons(40);
        due("the latest", x.undo(), 7);
        due("of which a bird was", x.count(1), 2);
        FeatherVotes empty = new FeatherVotes();
        empty.image();
        read(empty, EIGHT_BIRDS);
        read(empty, EIGHT_MOTIONS);
        due("as at first", empty.undo(), 0);
        due("as at first", empty.count(1) + empty.count(2), 0);
        at(45, "NONE: nothing is kept.");
        due("nothing", new FeatherVotes().undo(), NONE);
        x.tear();
        x.seasons(1);
        due("torn", x.undo(), NONE);
        due("season", x.now(0), 8);

        at(46, "Nothing is kept: 1 if something was, else 0.");
        due("never", new FeatherVotes().tear(), 0);
        due("already torn", x.tear(), 0);
        x.image();
        x.undo();
        due("it stayed", x.tear(), 1);
        due("again", x.tear(), 0);
        x.image();
        due("kept again", x.undo(), 8);
        promises47And48();
    }

    private static void promises47And48() {
        at(47, "0 SEASON, 1 BIRDS, 2 MOTIONS, 3 LAWS (how many), 4 FEATHERS of all, 5 bytes of THE TAPE, 6 z, 7 SPOTS that hold something.");
        FeatherVotes x = state("bird has 99 99 99 99;gull has 1;motion 0 wants 1;motion 1 wants 1;motion 2;motion 3 wants 1;season 999");
        for (int m = 0; m < 4; m++) {
            x.vote(m);
        }
        for (int spot = 0; spot <= 9; spot++) {
            x.hold(spot, spot % 2);
        }
        x.hold(5, -1);
        x.feed(0, 3);
        x.seed(-1);
        int[] want = {999, 2, 4, 3, 393, 3, -1, 9};
        for (int what = 0; what <= 7; what++) {
            due("count " + what, x.count(what), want[what]);
        }
        at(47, "BEYOND: another what.");
        dueBeyond("count", 0, 7, v -> x.count(v));

        at(48, "How many acts answered a finding ever (undo() takes none back): which -1: all, 0 to 6: BEYOND to SIZE.");
        FeatherVotes y = new FeatherVotes();
        for (int which = -1; which <= 6; which++) {
            due("none", y.status(which), 0);
        }
        read(y, EIGHT_BIRDS);
        y.image();
        y.hold(0, 0);
        y.sheet(0, 8, 1);
        for (int i = 1; i <= 3; i++) {
            due("beyond", y.now(-1), BEYOND);
            due("full", y.bird(0), FULL);
            due("kind", y.as(0, 1), KIND);
            y.tear();
            due("none", y.undo(), NONE);
            due("state", y.judge(0), STATE);
            due("missing", y.load(1), MISSING);
            due("size", y.sheet(0, 8, -1), SIZE);
            for (int which = 0; which <= 6; which++) {
                due("status " + which, y.status(which), i);
            }
            due("all", y.status(-1), 7 * i);
            y.image();
            due("undo takes none back", y.undo() + y.status(-1), 7 * i);
        }
        due("a fault is no finding", read(y, "x"), -1);
        due("all", y.status(-1), 21);
        at(48, "BEYOND (counted from then on): another one.");
        due("7", y.status(7), BEYOND);
        due("counted", y.status(0), 4);
        due("-2", y.status(-2), BEYOND);
        due("counted", y.status(0), 5);
        due("all", y.status(-1), 23);
        dueBeyond("status", -1, 6, v -> y.status(v));
        due("counted", y.status(-1), 29);
    }

    // ---- whether a word was left out

    private static void noWordIsLeftOut(String document) {
        DUE.part("document");
        String plain = document.replace("```text", " ").replace("```", " ").replaceAll("\\s+", " ");
        String terms = between(plain, "## Terms ", "Ahead of the calls `bird`");
        // What only numbers the paragraphs.
        leftOut(TERMS, terms.replace(" 1. COLOURS", " COLOURS").replace(" 2. A VOTE", " A VOTE").replace(" 3. A TEXT", " A TEXT"));
        for (int promise = 1; promise <= PROMISES; promise++) {
            String end = promise == PROMISES ? "## Not promised" : "## Promise " + (promise + 1) + ":";
            leftOut(promise, between(plain, "## Promise " + promise + ":", end).replaceFirst("^[^`]*`[^`]*`:", ""));
        }
    }

    private static String between(String text, String begin, String end) {
        int from = text.indexOf(begin);
        int to = text.indexOf(end);
        if (from < 0 || to < from) {
            DUE.fail("no '" + begin + "' ahead of '" + end + "'");
            return "";
        }
        return text.substring(from + begin.length(), to);
    }

    private static void leftOut(int promise, String words) {
        String rest = words;
        for (String quoted : QUOTED.get(promise)) {
            int from = rest.indexOf(quoted);
            if (from < 0) {
                DUE.fail(promise + " has no words '" + quoted + "'");
            } else {
                rest = rest.substring(0, from) + rest.substring(from + quoted.length());
            }
        }
        due("what no test of " + promise + " quotes: '" + rest.strip() + "'", rest.strip().length(), 0);
    }
}
