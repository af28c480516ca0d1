import java.util.ArrayList;
import java.util.List;
import java.util.Set;
import java.util.TreeSet;
import java.util.function.Supplier;

/**
 * An act that answers a finding changes nothing but status(): of two objects that are alike one is
 * asked what it must refuse, then both are asked for all that they hold. So is each act that only
 * tells what is or what would be.
 */
public final class RefusalsTest {
    private static final int[] FAR = {Integer.MIN_VALUE, -1000001, 1000000, Integer.MAX_VALUE};
    private static final Due DUE = new Due();
    private static final Set<String> ASKED = new TreeSet<>();

    private interface Act {
        long of(FeatherVotes x);
    }

    private RefusalsTest() {
    }

    public static void main(String[] args) {
        wrongNumbers();
        full();
        others();
        sheets();
        late();
        telling();
        for (java.lang.reflect.Method m : FeatherVotes.class.getDeclaredMethods()) {
            boolean isFace = java.lang.reflect.Modifier.isPublic(m.getModifiers());
            boolean refuses = !Set.of("clears", "seed", "wipe", "text", "image", "tear").contains(m.getName());
            DUE.is("refusals of " + m.getName(), isFace && refuses && !ASKED.contains(m.getName()) ? 0 : 1, 1);
        }
        DUE.end();
    }

    // ---- the objects

    private static void read(FeatherVotes x, String text) {
        feed(x, text);
        DUE.is(text, x.text(), text.split(";").length);
    }

    private static void feed(FeatherVotes x, String text) {
        for (int i = 0; i < text.length(); i++) {
            x.feed(text.charAt(i), 1);
        }
    }

    private static void row(FeatherVotes x, int s, int bits, int... numbers) {
        x.sheet(s, bits, numbers.length);
        for (int i = 0; i < numbers.length; i++) {
            x.write(s, i, numbers[i]);
        }
    }

    /** Three birds, three motions, one of them law; the last sheet is missing. */
    private static FeatherVotes some() {
        FeatherVotes x = new FeatherVotes();
        read(x, "bird has 3 1 4 1 keeps 5 grows 2;crow keeps 60 grows 0;motion 2 wants 1;season 4");
        x.hold(1, 0);
        x.seed(-3);
        x.image();
        read(x, "tern has 9 9 9 9;motion 0 quorum 30 wants 7;motion 1 wants 4 effect 3;season 6");
        x.hold(0, 2);
        x.vote(2);
        x.seed(77);
        row(x, 0, 8, 1, 0, 2);
        row(x, 1, 16, 5, 6);
        row(x, 2, 32, 0, 1, 2, 3);
        feed(x, "swan has 7");
        return x;
    }

    /** Eight birds, eight motions, 119 bytes; only an image is missing. */
    private static FeatherVotes almostFull() {
        FeatherVotes x = new FeatherVotes();
        read(x, "tern has 50;tern has 50;tern has 50;tern has 50;swan has 4;wren has 5;gull has 6;raven has 50");
        read(x, "motion 0;motion 0 wants 3;motion 1;motion 1;motion 2;motion 2;motion 3;motion 3 wants 128 effect 4");
        row(x, 3, 8, 9, 9, 9);
        feed(x, "season 3;".repeat(12) + "season 3   ");
        return x;
    }

    private static FeatherVotes full() {
        FeatherVotes x = almostFull();
        feed(x, " ");
        return x;
    }

    // ---- what they hold

    private static List<Long> all(FeatherVotes x) {
        List<Long> told = new ArrayList<>();
        tellState(x, told);
        for (int s = 0; s < 4; s++) {
            told.add((long) x.fits(s));
            told.add((long) x.stolen(s, 2));
            told.add((long) x.judge(s));
        }
        for (int s = 0; s < 4; s++) {
            tellSheet(x, s, told);
        }
        told.add((long) x.text());
        tellState(x, told);
        told.add((long) x.years(3));
        told.add((long) x.undo());
        tellState(x, told);
        told.add((long) x.tear());
        return told;
    }

    private static void tellState(FeatherVotes x, List<Long> told) {
        for (int what = 0; what <= 7; what++) {
            told.add((long) x.count(what));
            told.add((long) x.now(what));
        }
        for (int i = 0; i < 8; i++) {
            for (int what = 0; what <= 6; what++) {
                told.add((long) x.of(i, what));
            }
            for (int what = 0; what <= 4; what++) {
                told.add((long) x.told(i, what));
            }
        }
        for (int spot = 0; spot <= 9; spot++) {
            told.add((long) x.as(spot, 0));
        }
    }

    /** Its numbers, as far as there are birds, then its length and its bits. */
    private static void tellSheet(FeatherVotes x, int s, List<Long> told) {
        told.add((long) x.load(s));
        for (int b = 0; b < 8; b++) {
            told.add((long) x.of(b, 3));
        }
        for (int i = 0; i < 6; i++) {
            told.add((long) x.write(s, i, (1 << 16) + 5));
        }
        told.add((long) x.load(s));
        told.add((long) x.write(s, 0, (1 << 8) + 5));
        told.add((long) x.load(s));
    }

    // ---- the acts

    private static void refused(String call, long finding, Supplier<FeatherVotes> make, Act act) {
        DUE.part(call);
        ASKED.add(call.split(" ")[0]);
        FeatherVotes x = make.get();
        FeatherVotes twin = make.get();
        DUE.is("it", act.of(x), finding);
        int place = (int) (Due.BEYOND - finding);
        for (int which = 0; which <= 6; which++) {
            DUE.is("status " + which, x.status(which), twin.status(which) + (which == place ? 1 : 0));
        }
        DUE.is("status", x.status(-1), twin.status(-1) + 1);
        DUE.is("all is as it was", all(x).equals(all(twin)) ? 1 : 0, 1);
    }

    private interface Numbered {
        long of(FeatherVotes x, int v);
    }

    private static void beyond(String call, int least, int most, Numbered act) {
        List<Integer> wrong = new ArrayList<>(List.of(least - 1, most + 1));
        for (int v : FAR) {
            wrong.add(v);
        }
        for (int v : wrong) {
            refused(call + " of " + v, Due.BEYOND, RefusalsTest::some, x -> act.of(x, v));
        }
    }

    private static void wrongNumbers() {
        beyond("bird", 0, 6, (x, v) -> x.bird(v));
        beyond("of bird", 0, 2, (x, v) -> x.of(v, 0));
        beyond("of what", 0, 8, (x, v) -> x.of(0, v));
        beyond("change bird", 0, 2, (x, v) -> x.change(v, 0, 1));
        beyond("change what", 0, 6, (x, v) -> x.change(0, v, 1));
        int[] most = {6, 99, 9, 99, 99, 99, 99};
        for (int what = 0; what <= 6; what++) {
            int asked = what;
            beyond("change v", 0, most[what], (x, v) -> x.change(1, asked, v));
        }
        beyond("motion", 0, 3, (x, v) -> x.motion(v));
        beyond("told motion", 0, 2, (x, v) -> x.told(v, 0));
        beyond("told what", 0, 4, (x, v) -> x.told(0, v));
        beyond("tell motion", 0, 2, (x, v) -> x.tell(v, 0, 1));
        beyond("tell what", 0, 4, (x, v) -> x.tell(0, v, 1));
        int[] greatest = {3, 99, 7, 4, 1};
        for (int what = 0; what <= 4; what++) {
            int asked = what;
            beyond("tell v", 0, greatest[what], (x, v) -> x.tell(1, asked, v));
        }
        beyond("drops bird", 0, 2, (x, v) -> x.drops(v, 0));
        beyond("drops motion", 0, 2, (x, v) -> x.drops(0, v));
        beyond("side motion", 0, 2, (x, v) -> x.side(v, 1));
        beyond("side", 0, 1, (x, v) -> x.side(0, v));
        beyond("passes", 0, 2, (x, v) -> x.passes(v));
        beyond("vote", 0, 2, (x, v) -> x.vote(v));
        beyond("seasons", 1, 40, (x, v) -> x.seasons(v));
        beyond("now", 0, 7, (x, v) -> x.now(v));
        beyond("when", 0, 2, (x, v) -> x.when(v));
        beyond("flies", 0, 2, (x, v) -> x.flies(v));
        beyond("plucked", 0, 2, (x, v) -> x.plucked(v));
        beyond("hinges", 0, 2, (x, v) -> x.hinges(v));
        beyond("sets", 0, 2, (x, v) -> x.sets(v));
        beyond("power bird", 0, 2, (x, v) -> x.power(v, 0));
        beyond("power motion", 0, 2, (x, v) -> x.power(0, v));
        beyond("won", 0, 2, (x, v) -> x.won(v));
        beyond("colour", 0, 2, (x, v) -> x.colour(v));
        beyond("kindFor", 0, 2, (x, v) -> x.kindFor(v));
        beyond("quorum", 0, 2, (x, v) -> x.quorum(v));
        beyond("agenda", 0, 7, (x, v) -> x.agenda(v));
        beyond("ith set", 0, 7, (x, v) -> x.ith(v, 0));
        beyond("ith", 0, 2, (x, v) -> x.ith(7, v));
        beyond("ways", 0, 7, (x, v) -> x.ways(v));
        beyond("left", 0, 7, (x, v) -> x.left(v));
        moreWrongNumbers();
    }

    private static void moreWrongNumbers() {
        beyond("wind motion", 0, 2, (x, v) -> x.wind(v, 1, 0));
        beyond("wind w", 0, 10, (x, v) -> x.wind(0, v, 0));
        beyond("wind what", 0, 1, (x, v) -> x.wind(0, 1, v));
        beyond("fits", 0, 3, (x, v) -> x.fits(v));
        beyond("stolen sheet", 0, 3, (x, v) -> x.stolen(v, 0));
        beyond("stolen v", 0, 9, (x, v) -> x.stolen(0, v));
        beyond("years", 1, 20, (x, v) -> x.years(v));
        beyond("feed n", 1, 4, (x, v) -> x.feed(0x20202020, v));
        beyond("hold spot", 0, 9, (x, v) -> x.hold(v, 1));
        beyond("hold nothing", 0, 9, (x, v) -> x.hold(v, -1));
        beyond("hold bird", -1, 2, (x, v) -> x.hold(0, v));
        beyond("as spot", 0, 9, (x, v) -> x.as(v, 0));
        beyond("as kind", 0, 6, (x, v) -> x.as(0, v));
        beyond("sheet", 0, 3, (x, v) -> x.sheet(v, 8, 5));
        beyond("sheet bits", 0, 32, (x, v) -> x.sheet(0, v, 5));
        beyond("write sheet", 0, 3, (x, v) -> x.write(v, 0, 9));
        beyond("write i", 0, 2, (x, v) -> x.write(0, v, 9));
        beyond("copy s", 0, 3, (x, v) -> x.copy(v, 0, 0, 0, 1));
        beyond("copy t", 0, 3, (x, v) -> x.copy(0, 0, v, 0, 1));
        beyond("copy from", 0, 2, (x, v) -> x.copy(0, v, 0, 0, 1));
        beyond("copy to", 0, 2, (x, v) -> x.copy(0, 0, 0, v, 1));
        beyond("copy n", 0, 3, (x, v) -> x.copy(0, 0, 0, 0, v));
        beyond("load", 0, 3, (x, v) -> x.load(v));
        beyond("judge", 0, 3, (x, v) -> x.judge(v));
        beyond("count", 0, 7, (x, v) -> x.count(v));
        beyond("status", -1, 6, (x, v) -> x.status(v));
    }

    private static void others() {
        for (int kind = 0; kind <= 6; kind++) {
            int asked = kind;
            refused("bird full", Due.FULL, RefusalsTest::full, x -> x.bird(asked));
        }
        for (int colour = 0; colour <= 3; colour++) {
            int asked = colour;
            refused("motion full", Due.FULL, RefusalsTest::full, x -> x.motion(asked));
        }
        for (int n = 1; n <= 4; n++) {
            int bytes = n;
            refused("feed full", Due.FULL, RefusalsTest::full, x -> x.feed(0x62697264, bytes));
        }
        refused("feed full, in part", Due.FULL, RefusalsTest::almostFull, x -> x.feed(0x62697264, 2));
        refused("wind of 136", Due.SIZE, RefusalsTest::full, x -> x.wind(0, 1, 0));
        refused("agenda of six", Due.BEYOND, RefusalsTest::full, x -> x.agenda(63));
        refused("ith of six", Due.BEYOND, RefusalsTest::full, x -> x.ith(63, 0));
        refused("ways of six", Due.BEYOND, RefusalsTest::full, x -> x.ways(63));
        refused("left of six", Due.BEYOND, RefusalsTest::full, x -> x.left(63));
        refused("when never", Due.NONE, RefusalsTest::some, x -> x.when(1));
        refused("flies never", Due.NONE, RefusalsTest::some, x -> x.flies(1));
        refused("won never", Due.NONE, RefusalsTest::some, x -> x.won(1));
        refused("colour of none", Due.NONE, RefusalsTest::some, x -> x.colour(1));
        refused("quorum not with 0", Due.NONE, RefusalsTest::full, x -> x.quorum(0));
        refused("undo of nothing", Due.NONE, RefusalsTest::full, FeatherVotes::undo);
        refused("as of nothing", Due.MISSING, RefusalsTest::some, x -> x.as(9, 0));
        refused("as of another kind", Due.KIND, RefusalsTest::some, x -> x.as(1, 2));
    }

    private static void sheets() {
        refused("fits missing", Due.MISSING, RefusalsTest::some, x -> x.fits(3));
        refused("stolen missing", Due.MISSING, RefusalsTest::some, x -> x.stolen(3, 0));
        refused("write missing", Due.MISSING, RefusalsTest::some, x -> x.write(3, 0, 1));
        refused("load missing", Due.MISSING, RefusalsTest::some, x -> x.load(3));
        refused("judge missing", Due.MISSING, RefusalsTest::some, x -> x.judge(3));
        refused("copy of missing", Due.MISSING, RefusalsTest::some, x -> x.copy(3, 0, 0, 0, 1));
        refused("copy to missing", Due.MISSING, RefusalsTest::some, x -> x.copy(0, 0, 3, 0, 1));
        refused("copy of other bits", Due.KIND, RefusalsTest::some, x -> x.copy(0, 0, 1, 0, 1));
        refused("copy of too many", Due.BEYOND, RefusalsTest::some, x -> x.copy(0, 1, 0, 0, 3));
        refused("copy to too many", Due.BEYOND, RefusalsTest::some, x -> x.copy(0, 0, 0, 1, 3));
        refused("judge no motion", Due.STATE, RefusalsTest::some, x -> x.judge(2));
        for (int bits = 0; bits <= 32; bits = bits == 0 ? 8 : 2 * bits) {
            int of = bits;
            for (int n : new int[] {-1, Integer.MIN_VALUE}) {
                refused("sheet of " + n, Due.SIZE, RefusalsTest::some, x -> x.sheet(0, of, n));
            }
            for (int n : new int[] {41, Integer.MAX_VALUE}) {
                refused("sheet of " + n, Due.BEYOND, RefusalsTest::some, x -> x.sheet(0, of, n));
            }
        }
    }

    /** STATE of a season above 99999 takes more calls than the document promises anything for. */
    private static void late() {
        Supplier<FeatherVotes> make = () -> {
            FeatherVotes x = some();
            for (int i = 0; i < 2499; i++) {
                x.seasons(40);
            }
            x.seasons(28);
            return x;
        };
        refused("seasons too late", Due.STATE, make, x -> x.seasons(6));
        refused("years too late", Due.STATE, make, x -> x.years(6));
    }

    /** What only tells changes nothing at all. */
    private static void tells(String call, Supplier<FeatherVotes> make, Act act) {
        DUE.part(call);
        FeatherVotes x = make.get();
        FeatherVotes twin = make.get();
        DUE.is("no finding", act.of(x) >= 0 ? 1 : 0, 1);
        DUE.is("status", x.status(-1), twin.status(-1));
        DUE.is("all is as it was", all(x).equals(all(twin)) ? 1 : 0, 1);
    }

    private static void telling() {
        tells("when", RefusalsTest::some, x -> x.when(2));
        tells("flies", RefusalsTest::some, x -> x.flies(0));
        tells("flies later", () -> {
            FeatherVotes x = some();
            x.change(0, 1, 90);
            return x;
        }, x -> x.flies(0));
        for (int m = 0; m < 3; m++) {
            int motion = m;
            tells("drops", RefusalsTest::some, x -> x.drops(2, motion));
            tells("side", RefusalsTest::some, x -> x.side(motion, 1));
            tells("passes", RefusalsTest::some, x -> x.passes(motion));
            tells("plucked", RefusalsTest::some, x -> x.plucked(motion));
            tells("hinges", RefusalsTest::some, x -> x.hinges(motion));
            tells("sets", RefusalsTest::some, x -> x.sets(motion));
            tells("power", RefusalsTest::some, x -> x.power(motion, motion));
            tells("kindFor", RefusalsTest::some, x -> x.kindFor(motion));
            tells("wind", RefusalsTest::some, x -> x.wind(motion, 3, 1));
        }
        tells("won", RefusalsTest::some, x -> x.won(2));
        tells("colour", RefusalsTest::some, x -> x.colour(2));
        tells("quorum", RefusalsTest::some, x -> x.quorum(2));
        for (int set : new int[] {0, 1, 7}) {
            tells("agenda", RefusalsTest::some, x -> x.agenda(set));
            tells("ways", RefusalsTest::some, x -> x.ways(set));
            tells("left", RefusalsTest::some, x -> x.left(set));
        }
        tells("ith", RefusalsTest::some, x -> x.ith(7, 2));
        tells("agenda of five", RefusalsTest::full, x -> x.agenda(0xf8));
        tells("fits", RefusalsTest::some, x -> x.fits(0));
        tells("stolen", RefusalsTest::some, x -> x.stolen(1, 9));
        tells("as", RefusalsTest::some, x -> x.as(0, 2));
        tells("judge", RefusalsTest::some, x -> x.judge(0));
        for (int what = 0; what <= 7; what++) {
            int asked = what;
            tells("count", RefusalsTest::some, x -> x.count(asked));
            tells("now", RefusalsTest::some, x -> x.now(asked));
        }
        for (int which = -1; which <= 6; which++) {
            int asked = which;
            tells("status", RefusalsTest::some, x -> x.status(asked));
        }
    }
}
