/** Each promise of the document by itself: ordinary calls, edges, wrong arguments. */
public final class PromisesTest {
    private static final int BIRD = 0;
    private static final int SWAN = 1;
    private static final int CROW = 2;
    private static final int RAVEN = 3;
    private static final int TERN = 4;
    private static final int WREN = 5;
    private static final int GULL = 6;
    private static final int[] WRONG = {-1, Integer.MIN_VALUE, Integer.MAX_VALUE};

    private static final Due DUE = new Due();
    private static final int FINDINGS = 7;

    /** The object that is asked, and the findings that it has answered since. */
    private static FeatherVotes asked = null;
    private static final int[] SEEN = new int[FINDINGS];

    private PromisesTest() {
    }

    public static void main(String[] args) {
        promise1NewObject();
        promise2Bird();
        promise3Of();
        promise4Change();
        promise5Motion();
        promise6Told();
        promise7Tell();
        promise8Drops();
        promise8Blocs();
        promise8WrensAndGulls();
        promise9Side();
        promise10Passes();
        promise11Vote();
        promise11Effects();
        promise11Foot();
        promise12Seasons();
        promise13Now();
        promise14Clears();
        promise15When();
        promise16Flies();
        promise17Plucked();
        promise18Hinges();
        promise19Sets();
        promise20Power();
        promise21Won();
        promise22Colour();
        promise23KindFor();
        promise24Quorum();
        promises15To23Untried();
        promises25To28Agendas();
        promises25To28First();
        promises25To28ByOrder();
        promise29Wind();
        promise30Fits();
        promise31Stolen();
        promise32Years();
        promise33Seed();
        promise34Feed();
        promise35Wipe();
        promise36Text();
        promise36Birds();
        promise36Motions();
        promise36Tokens();
        promise36Room();
        promise37Hold();
        promise38As();
        promise39Sheet();
        promise40Write();
        promise41Copy();
        promise42Load();
        promise43Judge();
        promises44To46Images();
        promise47Count();
        promise48Status();
        dueFindings();
        DUE.end();
    }

    private static FeatherVotes begin(String part) {
        dueFindings();
        DUE.part(part);
        asked = new FeatherVotes();
        return asked;
    }

    /** Whatever the object answered, its findings and no others have been counted. */
    private static void dueFindings() {
        for (int which = 0; which < FINDINGS; which++) {
            if (asked != null) {
                DUE.is("status " + which + " at last", asked.status(which), SEEN[which]);
            }
            SEEN[which] = 0;
        }
        asked = null;
    }

    private static void due(String call, long got, long want) {
        long which = Due.BEYOND - got;
        if (which >= 0 && which < FINDINGS) {
            SEEN[(int) which]++;
        }
        DUE.is(call, got, want);
    }

    /** For answers that only look like findings, and for findings that nobody looked at. */
    private static void dueUncounted(String call, long got, long want) {
        DUE.is(call, got, want);
    }

    private static void feed(FeatherVotes x, String text) {
        for (int i = 0; i < text.length(); i++) {
            x.feed(text.charAt(i), 1);
        }
    }

    private static int read(FeatherVotes x, String text) {
        feed(x, text);
        return x.text();
    }

    private static void dueText(FeatherVotes x, String text, int want) {
        due("text of '" + text + "'", read(x, text), want);
    }

    /** A text that must be read as so many items. */
    private static FeatherVotes state(String part, String... texts) {
        FeatherVotes x = begin(part);
        for (String text : texts) {
            due("text of '" + text + "'", read(x, text), text.split(";").length);
        }
        return x;
    }

    private static void promise1NewObject() {
        FeatherVotes x = begin("1");
        for (int what = 0; what <= 7; what++) {
            due("count " + what, x.count(what), what == 6 ? 1 : 0);
            due("now " + what, x.now(what), 0);
        }
        for (int which = -1; which <= 6; which++) {
            due("status " + which, x.status(which), 0);
        }
        for (int spot = 0; spot <= 9; spot++) {
            due("as", x.as(spot, 0), Due.MISSING);
        }
        for (int s = 0; s <= 3; s++) {
            due("write", x.write(s, 0, 0), Due.MISSING);
        }
        due("of", x.of(0, 0), Due.BEYOND);
        due("told", x.told(0, 0), Due.BEYOND);
        due("undo", x.undo(), Due.NONE);
        due("tear", x.tear(), 0);
        due("wipe", x.wipe(), 0);
        due("clears", x.clears(), 0);
    }

    private static void promise2Bird() {
        FeatherVotes x = begin("2");
        due("bird 7", x.bird(7), Due.BEYOND);
        for (int kind : WRONG) {
            due("bird " + kind, x.bird(kind), Due.BEYOND);
        }
        for (int kind = 0; kind <= 6; kind++) {
            due("bird " + kind, x.bird(kind), kind);
            due("its kind", x.of(kind, 0), kind);
        }
        due("the 8th", x.bird(6), 7);
        due("the 9th", x.bird(0), Due.FULL);
        due("wrong and full", x.bird(7), Due.BEYOND);
        due("birds", x.count(1), 8);
    }

    private static void promise3Of() {
        FeatherVotes x = begin("3");
        x.bird(TERN);
        int[] first = {TERN, 2, 1, 0, 0, 0, 0, 0, 0};
        for (int what = 0; what < first.length; what++) {
            due("of 0 " + what, x.of(0, what), first[what]);
        }
        x.change(0, 3, 1);
        due("flies with 1 of 2", x.of(0, 8), 0);
        x.change(0, 6, 1);
        int[] then = {TERN, 2, 1, 1, 0, 0, 1, 2, 1};
        for (int what = 0; what < then.length; what++) {
            due("of 0 " + what, x.of(0, what), then[what]);
        }
        x.change(0, 4, 20);
        x.change(0, 5, 30);
        due("all", x.of(0, 7), 52);
        due("of colour 1", x.of(0, 4), 20);
        due("of colour 2", x.of(0, 5), 30);
        due("what 9", x.of(0, 9), Due.BEYOND);
        due("bird 1", x.of(1, 0), Due.BEYOND);
        for (int v : WRONG) {
            due("of", x.of(v, 0), Due.BEYOND);
            due("of", x.of(0, v), Due.BEYOND);
        }
    }

    private static void promise4Change() {
        FeatherVotes x = begin("4");
        x.bird(BIRD);
        int[] most = {6, 99, 9, 99, 99, 99, 99};
        int[] first = {0, 2, 1, 0, 0, 0, 0};
        for (int what = 0; what <= 6; what++) {
            due("change to most", x.change(0, what, most[what]), first[what]);
            due("too much", x.change(0, what, most[what] + 1), Due.BEYOND);
            for (int v : WRONG) {
                due("wrong", x.change(0, what, v), Due.BEYOND);
            }
            due("stays", x.of(0, what), most[what]);
        }
        for (int what = 0; what <= 6; what++) {
            due("change to 0", x.change(0, what, 0), most[what]);
            due("is 0", x.of(0, what), 0);
        }
        due("flies with none of 0", x.of(0, 8), 1);
        due("what 7", x.change(0, 7, 1), Due.BEYOND);
        due("what -1", x.change(0, -1, 1), Due.BEYOND);
        due("bird 1", x.change(1, 0, 1), Due.BEYOND);
        due("bird -1", x.change(-1, 0, 1), Due.BEYOND);
    }

    private static void promise5Motion() {
        FeatherVotes x = begin("5");
        due("colour 4", x.motion(4), Due.BEYOND);
        for (int v : WRONG) {
            due("wrong", x.motion(v), Due.BEYOND);
        }
        for (int m = 0; m < 8; m++) {
            due("motion", x.motion(m % 4), m);
            due("colour", x.told(m, 0), m % 4);
        }
        due("the 9th", x.motion(0), Due.FULL);
        due("wrong and full", x.motion(4), Due.BEYOND);
        due("motions", x.count(2), 8);
    }

    private static void promise6Told() {
        FeatherVotes x = begin("6");
        x.motion(3);
        int[] first = {3, 1, 0, 0, 0};
        for (int what = 0; what < first.length; what++) {
            due("told " + what, x.told(0, what), first[what]);
        }
        due("what 5", x.told(0, 5), Due.BEYOND);
        due("motion 1", x.told(1, 0), Due.BEYOND);
        for (int v : WRONG) {
            due("told", x.told(v, 0), Due.BEYOND);
            due("told", x.told(0, v), Due.BEYOND);
        }
    }

    private static void promise7Tell() {
        FeatherVotes x = begin("7");
        x.motion(2);
        due("wants of nobody", x.tell(0, 2, 1), Due.BEYOND);
        due("wants none", x.tell(0, 2, 0), 0);
        x.bird(BIRD);
        x.bird(BIRD);
        int[] most = {3, 99, 3, 4, 1};
        int[] first = {2, 1, 0, 0, 0};
        for (int what = 0; what <= 4; what++) {
            due("tell most", x.tell(0, what, most[what]), first[what]);
            due("too much", x.tell(0, what, most[what] + 1), Due.BEYOND);
            for (int v : WRONG) {
                due("wrong", x.tell(0, what, v), Due.BEYOND);
            }
            due("stays", x.told(0, what), most[what]);
        }
        x.tell(0, 3, 1);
        due("no longer law", x.tell(0, 4, 0), 1);
        due("law again", x.tell(0, 4, 1), 0);
        due("no effect came", x.of(0, 2), 1);
        due("laws", x.now(2), 1);
        due("what 5", x.tell(0, 5, 0), Due.BEYOND);
        due("what -1", x.tell(0, -1, 0), Due.BEYOND);
        due("motion 1", x.tell(1, 0, 0), Due.BEYOND);
        due("motion -1", x.tell(-1, 0, 0), Due.BEYOND);
        x.bird(BIRD);
        due("the new one is against", x.told(0, 2), 3);
    }

    private static void promise8Drops() {
        FeatherVotes x = state("8", "bird has 5;bird;swan has 5 5;swan has 0 5;motion 0;motion 1");
        due("a bird", x.drops(0, 0), 1);
        due("a bird that has none of it", x.drops(0, 1), 0);
        due("a bird that has none", x.drops(1, 0), 0);
        due("a swan, colour 0", x.drops(2, 0), 1);
        due("a swan, colour 1", x.drops(2, 1), 0);
        due("a swan that has none of it", x.drops(3, 0), 0);
        due("on the other side", x.tell(0, 2, 5), 0);
        due("a bird for it", x.drops(0, 0), 1);
        due("a swan for it", x.drops(2, 0), 1);
        due("feathers stay", x.of(0, 3), 5);
        due("no bird", x.drops(4, 0), Due.BEYOND);
        due("no motion", x.drops(0, 2), Due.BEYOND);
        for (int v : WRONG) {
            due("wrong", x.drops(v, 0), Due.BEYOND);
            due("wrong", x.drops(0, v), Due.BEYOND);
        }
    }

    private static void promise8Blocs() {
        FeatherVotes x = state("8 blocs", "crow has 50;raven has 50;tern has 50;bird has 50;wren has 50;crow has 50",
                "motion 0 wants 1");
        due("a crow alone", x.drops(0, 0), 1);
        due("a raven with two", x.drops(1, 0), 6);
        due("a tern with two", x.drops(2, 0), 7);
        due("a crow with two", x.drops(5, 0), 3);
        x.tell(0, 2, 2);
        due("a raven alone", x.drops(1, 0), 2);
        x.tell(0, 2, 4);
        due("a tern alone", x.drops(2, 0), 3);
        x.tell(0, 2, 63);
        due("a crow with three", x.drops(0, 0), 4);
        due("a raven with three", x.drops(1, 0), 8);
        due("a tern with three", x.drops(2, 0), 9);
        x.tell(0, 2, 0);
        due("all against", x.drops(2, 0), 9);
        x.change(2, 3, 8);
        due("no more than it holds", x.drops(2, 0), 8);
        x.change(1, 3, 3);
        due("no more than it holds", x.drops(1, 0), 3);
        x.change(0, 3, 0);
        due("no more than it holds", x.drops(0, 0), 0);
        due("one without feathers is of the bloc", x.drops(5, 0), 4);
    }

    private static void promise8WrensAndGulls() {
        FeatherVotes x = state("8 wrens, gulls", "wren has 3;wren has 2;gull has 3;gull has 2;wren has 1 2;gull has 1 2",
                "bird;motion 0;motion 0 wants 64;motion 2");
        due("a wren that can spare one", x.drops(0, 0), 1);
        due("a wren that can't", x.drops(1, 0), 0);
        due("a wren with other colours", x.drops(4, 0), 1);
        due("a wren without the colour", x.drops(0, 2), 0);
        due("a gull, nobody for it", x.drops(2, 0), 2);
        due("a gull, somebody for it", x.drops(2, 1), 1);
        due("a gull that can't spare, nobody for it", x.drops(3, 0), 1);
        due("a gull that can't spare, somebody for it", x.drops(3, 1), 0);
        due("no more than it holds", x.drops(5, 0), 1);
        due("a gull without the colour", x.drops(2, 2), 0);
        x.change(1, 1, 1);
        due("it keeps fewer", x.drops(1, 0), 1);
        x.change(6, 0, WREN);
        x.change(6, 1, 0);
        due("a wren that keeps none and has none", x.drops(6, 0), 0);
    }

    private static void promise9Side() {
        FeatherVotes x = state("9", "bird has 1;crow has 9;raven has 9;bird;motion 0 wants 3;motion 1");
        due("for", x.side(0, 1), 2);
        due("against", x.side(0, 0), 2);
        x.tell(0, 2, 6);
        due("for", x.side(0, 1), 6);
        due("against", x.side(0, 0), 1);
        due("nobody for", x.side(1, 1), 0);
        due("none of the colour", x.side(1, 0), 0);
        due("no side", x.side(0, 2), Due.BEYOND);
        due("no side", x.side(0, -1), Due.BEYOND);
        due("no motion", x.side(2, 0), Due.BEYOND);
        due("no motion", x.side(-1, 0), Due.BEYOND);
    }

    private static void promise10Passes() {
        FeatherVotes x = state("10", "bird has 1;bird has 1;bird has 1;motion 0 quorum 3 wants 3");
        due("2 to 1, quorum 3", x.passes(0), 1);
        x.tell(0, 1, 4);
        due("2 to 1, quorum 4", x.passes(0), 0);
        x.tell(0, 1, 0);
        x.change(0, 3, 0);
        due("1 to 1", x.passes(0), 0);
        x.change(2, 3, 0);
        due("1 to 0", x.passes(0), 1);
        x.change(1, 3, 0);
        due("0 to 0, quorum 0", x.passes(0), 0);
        due("nothing changed", x.told(0, 4), 0);
        due("no motion", x.passes(1), Due.BEYOND);
        due("no motion", x.passes(-1), Due.BEYOND);
    }

    private static void promise11Vote() {
        FeatherVotes x = state("11", "bird has 2;crow has 9;crow has 9;wren has 3;motion 0 wants 6 effect 1");
        due("4 to 2", x.vote(0), 1);
        int[] left = {1, 7, 7, 2};
        for (int b = 0; b < left.length; b++) {
            due("feathers of " + b, x.of(b, 3), left[b]);
            due("grows of " + b, x.of(b, 2), 2);
        }
        due("at the foot", x.now(4), 6);
        due("law", x.told(0, 4), 1);
        due("4 to 1, again", x.vote(0), 1);
        due("the effect came once", x.of(0, 2), 2);
        due("the wren kept two", x.of(3, 3), 2);
        due("at the foot", x.now(4), 11);
        x.tell(0, 2, 0);
        due("nobody for it", x.vote(0), 0);
        due("a law stays", x.told(0, 4), 1);
        due("feathers are dropped all the same: 2 of each crow", x.now(1), 8);
        x.tell(0, 4, 0);
        x.tell(0, 2, 6);
        due("as no law", x.vote(0), 1);
        due("the effect comes again", x.of(3, 2), 3);
        due("no motion", x.vote(1), Due.BEYOND);
        due("no motion", x.vote(-1), Due.BEYOND);
    }

    private static void promise11Effects() {
        FeatherVotes x = state("11 effects", "bird has 9;bird grows 9;bird grows 0;bird keeps 99;bird keeps 0",
                "motion 0 wants 1 effect 1;motion 0 wants 1 effect 2;motion 0 wants 1 effect 3;motion 0 wants 1 effect 4");
        int[][] grows = {{2, 9, 1, 2, 2}, {1, 8, 0, 1, 1}, {1, 8, 0, 1, 1}, {1, 8, 0, 1, 1}};
        int[][] keeps = {{2, 2, 2, 99, 0}, {2, 2, 2, 99, 0}, {3, 3, 3, 99, 1}, {2, 2, 2, 98, 0}};
        for (int m = 0; m < 4; m++) {
            due("vote " + m, x.vote(m), 1);
            for (int b = 0; b < 5; b++) {
                due("grows of " + b, x.of(b, 2), grows[m][b]);
                due("keeps of " + b, x.of(b, 1), keeps[m][b]);
            }
        }
        x.tell(1, 4, 0);
        x.vote(1);
        due("grows at least 0", x.of(2, 2), 0);
        x.tell(3, 4, 0);
        x.vote(3);
        due("keeps at least 0", x.of(4, 1), 0);
        due("laws", x.now(2), 15);
    }

    private static void promise11Foot() {
        FeatherVotes x = state("11 foot", "tern;tern;tern;tern;tern;tern;tern;tern;motion 2");
        int at = 0;
        for (int i = 0; i < 75; i++) {
            for (int b = 0; b < 8; b++) {
                x.change(b, 5, 99);
            }
            x.vote(0);
            at = Math.min(9999, at + 8 * 17);
            due("at the foot", x.now(6), at);
        }
        due("9999 at most", x.now(6), 9999);
        due("feathers fell all the same", x.of(0, 5), 82);
        due("other colours", x.now(4) + x.now(5) + x.now(7), 0);
        due("clears", x.clears(), 9999);
    }

    private static void promise12Seasons() {
        FeatherVotes x = state("12", "bird has 98 97 grows 3;bird grows 0;bird grows 1");
        due("none", x.seasons(0), Due.BEYOND);
        due("41", x.seasons(41), Due.BEYOND);
        due("below 0", x.seasons(-1), Due.BEYOND);
        due("one", x.seasons(1), 99 + 97 + 1);
        due("colour 0, 99 at most", x.of(0, 3), 99);
        due("colour 0", x.of(2, 3), 1);
        due("colours 1 to 3", x.seasons(3), 99 + 99 + 3 + 3 + 4);
        due("colour 2", x.of(0, 5), 3);
        due("colour 3", x.of(0, 6), 3);
        due("season", x.now(0), 4);
        due("nothing grows", x.of(1, 7), 0);
        due("40", x.seasons(40), 99 + 99 + 33 + 33 + 44);
        due("season", x.now(0), 44);
        due("seasons by a text", read(x, "season 3"), 1);
        due("of colour 3", x.seasons(1), 99 + 99 + 33 + 36 + 45);
        lastSeasons();
    }

    /** Behind more than 512 calls answers are free; only so may the last season be reached. */
    private static void lastSeasons() {
        FeatherVotes x = begin("12 last");
        for (int i = 0; i < 2499; i++) {
            x.seasons(40);
        }
        due("season", x.now(0), 99960);
        due("40 more", x.seasons(40), Due.STATE);
        due("40 more is wrong first", x.seasons(41), Due.BEYOND);
        due("38 more", x.seasons(38), 0);
        due("2 years", x.years(2), Due.STATE);
        due("2 years are wrong first", x.years(21), Due.BEYOND);
        x.image();
        due("a year", x.years(1), 0);
        due("and back", x.undo(), 99998);
        due("a season", x.seasons(1), 0);
        due("season", x.now(0), 99999);
        due("one more", x.seasons(1), Due.STATE);
        due("a year", x.years(1), Due.STATE);
        due("season stays", x.now(0), 99999);
    }

    private static void promise13Now() {
        FeatherVotes x = state("13", "bird has 1 1 1 1;bird has 1;bird has 1 1;motion 0 wants 7;motion 1;motion 2 wants 1;season 9");
        due("season", x.now(0), 9);
        due("feathers", x.now(1), 7);
        due("laws", x.now(2), 0);
        due("who fly", x.now(3), 5);
        x.vote(0);
        x.vote(1);
        x.vote(2);
        due("feathers", x.now(1), 1);
        due("laws", x.now(2), 5);
        due("who fly", x.now(3), 0);
        int[] foot = {3, 2, 1, 0};
        for (int c = 0; c < 4; c++) {
            due("foot", x.now(4 + c), foot[c]);
        }
        x.tell(0, 0, 3);
        x.vote(0);
        due("foot of colour 3", x.now(7), 1);
        due("what 8", x.now(8), Due.BEYOND);
        for (int v : WRONG) {
            due("wrong", x.now(v), Due.BEYOND);
        }
    }

    private static void promise14Clears() {
        FeatherVotes x = state("14", "bird has 1 1 1 1;bird has 1;motion 0;motion 3");
        x.vote(0);
        x.vote(1);
        due("clears", x.clears(), 3);
        for (int what = 4; what <= 7; what++) {
            due("foot", x.now(what), 0);
        }
        due("again", x.clears(), 0);
    }

    private static void promise15When() {
        FeatherVotes x = state("15", "bird;bird grows 0;motion 2 wants 1;motion 0 wants 2;motion 3 quorum 2 wants 1;motion 0 wants 1");
        due("behind three", x.when(0), 3);
        due("never", x.when(1), Due.NONE);
        due("quorum never", x.when(2), Due.NONE);
        due("behind one", x.when(3), 1);
        x.change(0, 3, 1);
        due("now", x.when(3), 0);
        due("nothing changed", x.now(0), 0);
        due("season 3 comes first", read(x, "season 3"), 1);
        due("behind four", x.when(0), 4);
        due("no motion", x.when(4), Due.BEYOND);
        due("no motion", x.when(-1), Due.BEYOND);
        FeatherVotes y = state("15 far", "wren keeps 49;bird has 99 99 99 99 grows 0;motion 3 wants 1;motion 1 wants 1");
        due("the wren, once it can spare one", y.when(1), Due.NONE);
        y.change(1, 4, 0);
        due("50 feathers at season 50", y.when(1), 50);
        y.change(0, 1, 99);
        due("100 feathers at season 100", y.when(1), 100);
        y.change(1, 6, 0);
        due("100 feathers at season 100", y.when(0), 100);
    }

    private static void promise16Flies() {
        FeatherVotes x = state("16", "bird;bird has 2;bird has 1 grows 0;bird keeps 99;bird keeps 9 grows 4;bird keeps 0 grows 0");
        due("2 seasons", x.flies(0), 2);
        due("now", x.flies(1), 0);
        due("never", x.flies(2), Due.NONE);
        due("99 seasons", x.flies(3), 99);
        due("3 seasons", x.flies(4), 3);
        due("keeps none", x.flies(5), 0);
        due("nothing changed", x.now(1), 3);
        due("no bird", x.flies(6), Due.BEYOND);
        due("no bird", x.flies(-1), Due.BEYOND);
    }

    private static void promise17Plucked() {
        FeatherVotes x = state("17", "bird has 2;bird has 3;bird has 1;tern has 5;bird has 0 4;motion 0;motion 0 wants 8 effect 3",
                "motion 0 wants 8 effect 4;motion 0 effect 4");
        due("who fly", x.now(3), 27);
        due("2 - 1 < 2; 5 - 3 = 2", x.plucked(0), 1);
        due("no law: 3 to 3", x.plucked(1), 1);
        x.change(3, 3, 9);
        x.change(2, 3, 0);
        due("keeps 3: 1 and 2 are too few", x.plucked(1), 3);
        x.tell(1, 4, 1);
        due("a law has no effect", x.plucked(1), 1);
        due("keeps 1: all fly", x.plucked(2), 0);
        due("it doesn't pass", x.plucked(3), 1);
        due("nothing changed", x.of(0, 3), 2);
        due("nothing changed", x.of(0, 1), 2);
        due("nothing changed", x.now(2), 2);
        due("no motion", x.plucked(4), Due.BEYOND);
        due("no motion", x.plucked(-1), Due.BEYOND);
    }

    private static void promise18Hinges() {
        FeatherVotes x = state("18", "bird has 9;bird has 9;bird has 9;bird;motion 0 wants 3;motion 0 wants 7;motion 0 wants 1;motion 0 quorum 4 wants 7");
        due("2 to 1", x.hinges(0), 3);
        due("3 to 0", x.hinges(1), 0);
        due("1 to 2", x.hinges(2), 6);
        due("never", x.hinges(3), 0);
        due("wants stay", x.told(0, 2), 3);
        FeatherVotes y = state("18 gull", "gull has 9;bird has 9 keeps 0;motion 0 quorum 3;motion 0 wants 2");
        due("the gull drops one fewer, once somebody is for it", y.hinges(0), 0);
        due("1 to 1", y.hinges(1), 1);
        due("no motion", y.hinges(2), Due.BEYOND);
        due("no motion", y.hinges(-1), Due.BEYOND);
    }

    /** Objects that nothing has been tried on, for a trial must not be left from another call. */
    private static FeatherVotes untried() {
        FeatherVotes x = begin("untried");
        for (int b = 0; b < 3; b++) {
            x.bird(BIRD);
            x.change(b, 3, 5);
        }
        x.motion(0);
        x.tell(0, 2, 3);
        return x;
    }

    private static void promises15To23Untried() {
        due("when", untried().when(0), 0);
        due("flies", untried().flies(2), 0);
        due("plucked", untried().plucked(0), 0);
        due("hinges", untried().hinges(0), 3);
        due("sets", untried().sets(0), 4);
        due("power", untried().power(1, 0), 2);
        FeatherVotes x = untried();
        x.tell(0, 2, 4);
        due("won", x.won(0), 1);
        due("colour", untried().colour(0), 0);
        due("kindFor", untried().kindFor(2), 0);
    }

    private static void promise19Sets() {
        FeatherVotes x = state("19", "bird has 9;bird has 9;bird has 9;motion 0;motion 0 quorum 4;motion 1");
        due("2 or 3 of 3", x.sets(0), 4);
        due("too few", x.sets(1), 0);
        due("nothing dropped", x.sets(2), 0);
        x.bird(BIRD);
        due("a 4th that has none", x.sets(0), 8);
        x.change(3, 0, CROW);
        x.change(3, 3, 9);
        due("3 or 4 of 4", x.sets(0), 5);
        due("wants stay", x.told(0, 2), 0);
        due("no motion", x.sets(3), Due.BEYOND);
        due("no motion", x.sets(-1), Due.BEYOND);
        FeatherVotes y = begin("19 no birds");
        y.motion(0);
        due("no birds", y.sets(0), 0);
        FeatherVotes z = state("19 all", "bird has 9;bird has 9;bird has 9;bird has 9;bird has 9;bird has 9;bird has 9;bird has 9;motion 0");
        due("5 and more of 8", z.sets(0), 56 + 28 + 8 + 1);
    }

    private static void promise20Power() {
        FeatherVotes x = state("20", "bird has 9;bird has 9;bird has 9;bird;motion 0");
        due("one of three, the 4th on either side", x.power(0, 0), 4);
        due("the one that has none", x.power(3, 0), 0);
        x.change(2, 0, TERN);
        due("with a tern of 3", x.power(0, 0), 0);
        due("the tern", x.power(2, 0), 8);
        due("no bird", x.power(4, 0), Due.BEYOND);
        due("no motion", x.power(0, 1), Due.BEYOND);
        due("no bird", x.power(-1, 0), Due.BEYOND);
        due("no motion", x.power(0, -1), Due.BEYOND);
    }

    private static void promise21Won() {
        FeatherVotes x = state("21", "bird has 9;bird has 9;bird has 9;tern has 9;motion 0;motion 0 wants 8;motion 0 quorum 7;motion 0 quorum 6 wants 3");
        due("3 of 6 is a draw; the tern and the least", x.won(0), 9);
        due("3 to 3: the least", x.won(1), 1);
        due("never", x.won(2), Due.NONE);
        due("2 to 4: the tern, or one is a draw", x.won(3), 8);
        x.tell(3, 2, 9);
        due("it does", x.won(3), 0);
        x.tell(3, 2, 5);
        due("besides those", x.won(3), 8);
        due("wants stay", x.told(3, 2), 5);
        due("no motion", x.won(4), Due.BEYOND);
        due("no motion", x.won(-1), Due.BEYOND);
        FeatherVotes y = state("21 blocs", "bird has 9;crow has 9;crow has 9;crow has 9;motion 0 wants 1");
        due("two crows: 1 + 4 to 1", y.won(0), 6);
        FeatherVotes z = state("21 all", "crow has 9;crow has 9;crow has 9;crow has 9;crow has 9;crow has 9;crow has 9",
                "crow has 9;motion 0 quorum 64");
        due("only all of them drop 64", z.won(0), 255);
        z.tell(0, 1, 65);
        due("never", z.won(0), Due.NONE);
    }

    private static void promise22Colour() {
        FeatherVotes x = state("22", "tern has 9 2 9 2;bird has 1 1 1 1;motion 0 wants 1;motion 0 wants 2;motion 0 quorum 4 wants 1");
        due("3 to 1, 2 to 1: the least", x.colour(0), 1);
        due("none", x.colour(1), Due.NONE);
        due("with a quorum", x.colour(2), 0);
        x.change(1, 5, 0);
        due("3 to 0 isn't 4", x.colour(2), 0);
        x.change(0, 4, 1);
        due("1 to 1 is a draw", x.colour(0), 2);
        x.change(0, 6, 1);
        x.change(1, 6, 0);
        due("1 to 0", x.colour(0), 3);
        due("colour stays", x.told(0, 0), 0);
        due("no motion", x.colour(3), Due.BEYOND);
        due("no motion", x.colour(-1), Due.BEYOND);
    }

    private static void promise23KindFor() {
        FeatherVotes x = state("23", "tern has 9 9;bird has 9 9;bird has 9 9;motion 0 wants 1;motion 1 wants 6");
        due("a tern lets the one pass, a bird the other, a swan both? 1 to 2, 2 to 0", x.kindFor(0), 0);
        x.tell(1, 2, 1);
        due("a tern lets both pass", x.kindFor(0), 4);
        due("3 to 1 + 1 whatever this one is", x.kindFor(1), 0);
        x.tell(0, 0, 1);
        x.tell(0, 2, 2);
        x.tell(1, 2, 4);
        x.change(0, 0, BIRD);
        x.change(0, 4, 0);
        x.tell(1, 1, 0);
        due("1 to 1 each: a swan drops none of colour 1", x.kindFor(1), 1);
        due("kind stays", x.of(1, 0), BIRD);
        x.tell(1, 2, 0);
        x.tell(0, 2, 2);
        due("for motion 0 a raven", x.kindFor(1), 3);
        due("no bird", x.kindFor(3), Due.BEYOND);
        due("no bird", x.kindFor(-1), Due.BEYOND);
        FeatherVotes y = begin("23 no motions");
        y.bird(GULL);
        due("no motions", y.kindFor(0), 0);
        fullAssembly();
    }

    /** As many birds and motions as there can be. */
    private static void fullAssembly() {
        FeatherVotes x = begin("full");
        for (int i = 0; i < 8; i++) {
            x.bird(BIRD);
            x.change(i, 3, 9);
            x.motion(0);
        }
        for (int m = 0; m < 8; m++) {
            x.tell(m, 2, 15);
            x.tell(m, 3, 1 + m % 4);
        }
        due("4 to 4; a crow alone is no more, a raven is", x.kindFor(0), 3);
        due("on the other side a swan is no less, a wren neither", x.kindFor(7), 0);
        x.change(7, 1, 9);
        due("a wren that can't spare one", x.kindFor(7), 5);
        x.tell(7, 2, 31);
        due("5 to 3", x.passes(7), 1);
        x.tell(7, 3, 1);
        due("vote", x.vote(7), 1);
        for (int b = 0; b < 8; b++) {
            due("grows of " + b, x.of(b, 2), 2);
            due("feathers of " + b, x.of(b, 3), 8);
        }
        due("hinges", x.hinges(7), 31);
        due("laws", x.now(2), 128);
        due("who fly", x.now(3), 127);
    }

    private static void promise24Quorum() {
        FeatherVotes x = state("24", "tern has 9;bird has 1;motion 0 quorum 50 wants 1;motion 0 wants 2;motion 1 quorum 0");
        due("3 and 1", x.quorum(0), 4);
        due("1 to 3", x.quorum(1), Due.NONE);
        due("0 to 0", x.quorum(2), Due.NONE);
        due("quorum stays", x.told(0, 1), 50);
        due("no motion", x.quorum(3), Due.BEYOND);
        due("no motion", x.quorum(-1), Due.BEYOND);
        FeatherVotes y = state("24 all", "tern has 99;tern has 99;tern has 99;tern has 99;tern has 99;tern has 99;tern has 99",
                "tern has 99;motion 0 wants 255");
        due("136 are dropped", y.side(0, 1), 136);
        due("99 at most", y.quorum(0), 99);
    }

    private static void promises25To28Agendas() {
        FeatherVotes x = state("25", "bird has 1;motion 0 wants 1;motion 0 wants 1;motion 1 wants 1;motion 0;motion 0;motion 0");
        due("none", x.agenda(0), 0);
        due("none", x.ways(0), 1);
        due("none", x.left(0), 1);
        due("none", x.ith(0, 0), Due.BEYOND);
        due("one of two", x.agenda(3), 1);
        due("either order", x.ways(3), 2);
        due("the first by rows", x.ith(3, 0), 0);
        due("the first by rows", x.ith(3, 1), 1);
        due("none is left", x.left(3), 0);
        due("with one that nobody wants", x.agenda(9), 1);
        due("only one order", x.ways(9), 1);
        due("first the one", x.ith(9, 0), 0);
        due("then the other", x.ith(9, 1), 3);
        due("five", x.agenda(31), 1);
        due("0 or 1 ahead of 3 and 4: half of 120", x.ways(31), 60);
        due("five", x.ith(31, 4), 4);
        due("not one of it", x.ith(31, 5), Due.BEYOND);
        due("not one of it", x.ith(31, -1), Due.BEYOND);
        int[] wrong = {63, 64, -1, Integer.MIN_VALUE, Integer.MAX_VALUE};
        for (int set : wrong) {
            due("agenda", x.agenda(set), Due.BEYOND);
            due("ith", x.ith(set, 0), Due.BEYOND);
            due("ways", x.ways(set), Due.BEYOND);
            due("left", x.left(set), Due.BEYOND);
        }
        due("nothing changed", x.now(1), 1);
        due("nothing changed", x.now(2), 0);
    }

    private static void promises25To28First() {
        String text = "bird has 3;motion 0 wants 1;motion 0;motion 0 wants 1;motion 0";
        due("ith asked first", state("26", text).ith(10, 1), 3);
        due("ways asked first", state("27", text).ways(14), 6);
        due("ways asked of another set", state("27", text).ways(0), 1);
        due("left asked first", state("28", text).left(3), 1);
        FeatherVotes x = begin("25 eight");
        x.bird(BIRD);
        for (int m = 0; m < 8; m++) {
            x.motion(m % 4);
            x.tell(m, 2, 1);
        }
        x.seasons(7);
        due("the last ones", x.agenda(0xf8), 4);
        due("3 ahead of 7 has but one feather", x.ways(0xf8), 120);
        due("6 and 2", x.agenda(0x44), 2);
        due("first", x.ith(0x44, 0), 2);
        due("second", x.ith(0x44, 1), 6);
        due("left", x.left(0x44), 5);
    }

    private static void promises25To28ByOrder() {
        FeatherVotes x = state("25 order", "bird has 2;wren has 3 keeps 2;motion 0 quorum 2 wants 1;motion 0 wants 1;motion 0 wants 1 effect 3",
                "motion 0 quorum 2 wants 3 effect 4");
        due("1 to 1 as long as the wren can", x.passes(1), 0);
        due("2 to 0", x.passes(3), 1);
        due("1 to 1, then 1 to 0; or 2 to 0, then 1 to 1, for the wren keeps 1", x.agenda(15), 1);
        due("the first by rows", x.ith(15, 0), 0);
        due("the first by rows", x.ith(15, 1), 1);
        due("left", x.left(15), 2);
        FeatherVotes y = state("25 keeps", "bird has 3;wren has 3 keeps 1;motion 0 wants 1;motion 0 wants 3 effect 3;motion 1");
        due("3 keeps 2: 1 to 1 once more, unless the other one is first", y.agenda(3), 2);
        due("the effect first", y.ith(3, 0), 1);
        due("one way", y.ways(3), 1);
        due("left", y.left(3), 3);
    }

    private static void promise29Wind() {
        FeatherVotes x = state("29", "bird has 1;bird has 1;tern has 9 9;motion 0 wants 1;motion 2 wants 1");
        long[] above = {1, 59049, 1024, 16807, 243, 1, 32, 243, 1, 1, 0};
        long[] below = {1, 100000, 3125, 100000, 3125, 32, 3125, 100000, 3125, 100000, 1};
        for (int w = 0; w <= 10; w++) {
            due("above, w " + w, x.wind(0, w, 0), above[w]);
            due("below, w " + w, x.wind(0, w, 1), below[w]);
            due("nothing dropped", x.wind(1, w, 0), 1);
            due("nothing dropped", x.wind(1, w, 1), 1);
        }
        due("w 11", x.wind(0, 11, 0), Due.BEYOND);
        due("w -1", x.wind(0, -1, 0), Due.BEYOND);
        due("what 2", x.wind(0, 1, 2), Due.BEYOND);
        due("what -1", x.wind(0, 1, -1), Due.BEYOND);
        due("no motion", x.wind(2, 1, 0), Due.BEYOND);
        due("no motion", x.wind(-1, 1, 0), Due.BEYOND);
        FeatherVotes y = state("29 size", "tern has 15;motion 0;crow has 99;crow has 99;crow has 99;crow has 99;crow has 99;crow has 99");
        for (int b = 1; b < 7; b++) {
            y.change(b, 3, 0);
        }
        due("15 are dropped", y.side(0, 0), 15);
        due("above", y.wind(0, 1, 0), 205891132094649L);
        due("below", y.wind(0, 1, 1), 1000000000000000L);
        y.change(1, 3, 1);
        due("16 are dropped", y.wind(0, 1, 0), Due.SIZE);
        due("wrong first", y.wind(0, 1, 2), Due.BEYOND);
        due("counted", y.status(6), 1);
    }

    private static void promise30Fits() {
        FeatherVotes x = state("30", "bird has 1 1;bird has 1;bird has 1;motion 0 wants 1;motion 0 wants 3;motion 1 wants 1;motion 1");
        due("missing", x.fits(0), Due.MISSING);
        x.sheet(0, 32, 3);
        x.write(0, 0, 1);
        x.write(0, 1, 2);
        x.write(0, 2, 77);
        due("1 to 2", x.fits(0), 1);
        x.write(0, 1, 0);
        due("1 to 0", x.fits(0), 4);
        x.sheet(0, 8, 1);
        x.write(0, 0, 1);
        due("1 to any", x.fits(0), 5);
        x.sheet(0, 16, 0);
        due("any", x.fits(0), 15);
        x.sheet(0, 16, 2);
        x.write(0, 1, 1);
        due("0 to 1", x.fits(0), 8);
        due("the last sheet", x.fits(3), Due.MISSING);
        due("no sheet", x.fits(4), Due.BEYOND);
        due("no sheet", x.fits(-1), Due.BEYOND);
    }

    private static void promise31Stolen() {
        FeatherVotes x = state("31", "bird has 5 1 0 9;bird has 5 2 3 9;bird has 4;bird has 5 1 0 8");
        due("missing", x.stolen(3, 10), Due.MISSING);
        x.sheet(3, 8, 5);
        x.write(3, 0, 3);
        x.write(3, 3, 7);
        x.write(3, 4, 50);
        due("2 of each", x.stolen(3, 2), 1);
        due("1 of each", x.stolen(3, 1), 0);
        x.sheet(3, 8, 1);
        x.write(3, 0, 3);
        due("2 of each, others any", x.stolen(3, 2), 11);
        due("1 of each, others any", x.stolen(3, 1), 4);
        x.write(3, 0, 5);
        due("none is stolen", x.stolen(3, 0), 11);
        x.sheet(3, 8, 0);
        due("all any", x.stolen(3, 9), 15);
        due("v 10", x.stolen(3, 10), Due.BEYOND);
        due("v -1", x.stolen(3, -1), Due.BEYOND);
        due("no sheet", x.stolen(4, 0), Due.BEYOND);
        due("no sheet", x.stolen(-1, 0), Due.BEYOND);
        due("nothing changed", x.of(0, 3), 5);
    }

    private static void promise32Years() {
        FeatherVotes x = state("32", "bird has 9 9 9 9");
        due("none", x.years(0), Due.BEYOND);
        due("21", x.years(21), Due.BEYOND);
        due("below 0", x.years(-5), Due.BEYOND);
        due("no motions", x.years(3), 0);
        due("season", x.count(0), 3);
        due("no draws", x.count(6), 1);
        due("it grew", x.of(0, 7), 39);
        read(x, "motion 0 wants 1;motion 1 wants 1;motion 2");
        // z: 1103527590, 2524885223; z >>> 8: 4310654, 9862832; by 3: 2, 2
        due("two years", x.years(2), 0);
        due("z", x.count(6), (int) 2524885223L);
        due("season", x.count(0), 5);
        due("foot", x.now(6), 2);
        // z: 662824084, 3295386429, 4182499122; z >>> 8: 2589156, 12872603, 16337887; by 3: 0, 2, 1
        due("three years", x.years(3), 2);
        due("z", x.count(6), (int) 4182499122L);
        due("foot", x.now(4), 1);
        due("foot", x.now(5), 1);
        due("foot", x.now(6), 3);
        due("laws", x.now(2), 3);
        due("season ahead of the vote", seasonAheadOfVote(), 1);
        due("20 years", x.years(20) >= 0 ? 1 : 0, 1);
        due("season", x.count(0), 28);
    }

    private static int seasonAheadOfVote() {
        FeatherVotes x = new FeatherVotes();
        read(x, "bird;motion 0 wants 1");
        return x.years(1);
    }

    private static void promise33Seed() {
        FeatherVotes x = begin("33");
        due("at first", x.seed(-1000001), 1);
        dueUncounted("any int", x.seed(Integer.MIN_VALUE), -1000001);
        due("any int", x.seed(7), Integer.MIN_VALUE);
        due("z", x.count(6), 7);
        x.seed(-1000004);
        dueUncounted("z", x.count(6), -1000004);
        due("no finding", x.status(-1), 0);
    }

    private static void promise34Feed() {
        FeatherVotes x = begin("34");
        due("n 0", x.feed(1, 0), Due.BEYOND);
        due("n 5", x.feed(1, 5), Due.BEYOND);
        due("n -1", x.feed(1, -1), Due.BEYOND);
        due("four", x.feed(('b' << 24) | ('i' << 16) | ('r' << 8) | 'd', 4), 4);
        due("three", x.feed(0x7f000000 | (';' << 16) | ('b' << 8) | 'i', 3), 7);
        due("two", x.feed(0xffff0000 | ('r' << 8) | 'd', 2), 9);
        due("one", x.feed(0x12345600 | ' ', 1), 10);
        due("as fed", x.text(), 2);
        for (int i = 1; i <= 29; i++) {
            due("four", x.feed(0x20202020, 4), 4 * i);
        }
        due("two", x.feed(0x2020, 2), 118);
        due("too many", x.feed(0x202020, 3), Due.FULL);
        due("too many, wrong first", x.feed(0x202020, 5), Due.BEYOND);
        due("stays", x.count(5), 118);
        due("two", x.feed(0x2020, 2), 120);
        due("too many", x.feed(0x20, 1), Due.FULL);
        due("full of blanks", x.text(), -121);
    }

    private static void promise35Wipe() {
        FeatherVotes x = begin("35");
        x.feed(0x20202020, 4);
        due("wipe", x.wipe(), 4);
        due("again", x.wipe(), 0);
        due("empty", x.count(5), 0);
        dueText(x, "bird", 1);
    }

    private static void promise36Text() {
        FeatherVotes x = begin("36");
        dueText(x, "", -1);
        dueText(x, "bird;motion 0;season 7", 3);
        due("empty then", x.count(5), 0);
        due("birds", x.count(1), 1);
        due("motions", x.count(2), 1);
        due("season", x.count(0), 7);
        dueText(x, "season 9;bird has 1;motion 0;season", -36);
        due("empty then", x.count(5), 0);
        due("nothing changed", x.count(0), 7);
        due("nothing changed", x.count(1), 1);
        due("nothing changed", x.count(2), 1);
        due("no finding", x.status(-1), 0);
        dueText(x, "season 999", 1);
        due("season", x.count(0), 999);
        dueText(x, "season 0", 1);
        due("season", x.count(0), 0);
        dueText(x, "season 3;season 5", 2);
        due("item by item", x.count(0), 5);
        due("nothing grew", x.now(1), 0);
    }

    private static void promise36Birds() {
        FeatherVotes x = state("36 birds", "bird;swan has 1;crow has 1 2;raven has 1 2 3 keeps 4;tern has 1 2 3 4 grows 5",
                "wren keeps 99;gull has 99 0 0 99 keeps 0 grows 9");
        int[][] want = {{0, 2, 1, 0, 0, 0, 0}, {1, 2, 1, 1, 0, 0, 0}, {2, 2, 1, 1, 2, 0, 0}, {3, 4, 1, 1, 2, 3, 0},
            {4, 2, 5, 1, 2, 3, 4}, {5, 99, 1, 0, 0, 0, 0}, {6, 0, 9, 99, 0, 0, 99}};
        for (int b = 0; b < want.length; b++) {
            for (int what = 0; what <= 6; what++) {
                due("of " + b + " " + what, x.of(b, what), want[b][what]);
            }
        }
        dueText(x, "bird 1", -6);
        dueText(x, "bird has", -9);
        dueText(x, "bird has;", -9);
        dueText(x, "bird has keeps 1", -10);
        dueText(x, "bird has 1 2 3 100", -16);
        dueText(x, "bird has 1 2 3 4 5", -18);
        dueText(x, "bird has 1 has 2", -12);
        dueText(x, "bird keeps 1 has 1", -14);
        dueText(x, "bird keeps 100", -12);
        dueText(x, "bird keeps 1 2", -14);
        dueText(x, "bird grows 1 keeps 1", -14);
        dueText(x, "bird grows 10", -12);
        dueText(x, "bird grows", -11);
        dueText(x, "bird quorum 1", -6);
        dueText(x, "bird bird", -6);
        due("nothing changed", x.count(1), 7);
    }

    private static void promise36Motions() {
        FeatherVotes x = state("36 motions", "motion 3;motion 1 quorum 99;bird;motion 0 wants 1;motion 2 quorum 0 effect 4;bird",
                "motion 2 quorum 5 wants 3 effect 2");
        int[][] want = {{3, 1, 0, 0, 0}, {1, 99, 0, 0, 0}, {0, 1, 1, 0, 0}, {2, 0, 0, 4, 0}, {2, 5, 3, 2, 0}};
        for (int m = 0; m < want.length; m++) {
            for (int what = 0; what <= 4; what++) {
                due("told " + m + " " + what, x.told(m, what), want[m][what]);
            }
        }
        dueText(x, "motion 0 wants 4", -16);
        dueText(x, "motion 0 wants 4;bird", -16);
        dueText(x, "bird;motion 0 wants 4", 2);
        dueText(x, "motion", -7);
        dueText(x, "motion quorum 1", -8);
        dueText(x, "motion 4", -8);
        dueText(x, "motion 0 1", -10);
        dueText(x, "motion 0 quorum 100", -17);
        dueText(x, "motion 0 effect 5", -17);
        dueText(x, "motion 0 wants 0 quorum 1", -18);
        dueText(x, "motion 0 effect 1 wants 0", -19);
        dueText(x, "motion 0 has 1", -10);
        due("motions", x.count(2), 6);
    }

    private static void promise36Tokens() {
        FeatherVotes x = begin("36 tokens");
        dueText(x, "  bird  has7 8keeps5;swan ;  season007  ", 3);
        due("feathers", x.of(0, 4), 8);
        due("keeps", x.of(0, 1), 5);
        due("season", x.count(0), 7);
        dueText(x, "season 00000000000000000000000000000000000000012", 1);
        due("season", x.count(0), 12);
        dueText(x, "season 1000", -8);
        dueText(x, "season 99999999999999999999999999999999999999999", -8);
        dueText(x, "season 4294967296", -8);
        dueText(x, "season 12a", -10);
        dueText(x, "season -1", -8);
        dueText(x, "birdhas 3", -1);
        dueText(x, "birds", -1);
        dueText(x, "bir", -1);
        dueText(x, " has 3", -2);
        dueText(x, "Bird", -1);
        dueText(x, "bIrd", -1);
        dueText(x, "birD", -1);
        dueText(x, "cird", -1);
        dueText(x, "birdz", -1);
        dueText(x, "birda", -1);
        dueText(x, "bird{", -5);
        dueText(x, "bird`", -5);
        dueText(x, "bird/", -5);
        dueText(x, "bird:", -5);
        dueText(x, ";".repeat(120), -1);
        dueText(x, "season 1" + ";".repeat(112), -10);
        dueText(x, "7", -1);
        dueText(x, ";", -1);
        dueText(x, "bird;", -6);
        dueText(x, "bird;  ", -8);
        dueText(x, "bird;;bird", -6);
        dueText(x, "bird,bird", -5);
        dueText(x, "bird\tkeeps 1", -5);
        dueText(x, "bird\n", -5);
        dueText(x, "bird\0", -5);
        dueText(x, "bird" + (char) 0xe2, -5);
        dueText(x, "bird has 1000 \t", -10);
        dueText(x, "   ", -4);
        due("birds", x.count(1), 2);
    }

    private static void promise36Room() {
        FeatherVotes x = state("36 room", "bird;bird;bird;bird;bird;bird;bird");
        dueText(x, "bird; swan has 1", -7);
        due("nothing changed", x.count(1), 7);
        dueText(x, "bird", 1);
        dueText(x, "gull has 100", -1);
        dueText(x, "motion 0;motion 0;motion 0;motion 0;motion 0;motion 0;motion 0;motion 0;motion 9", -73);
        due("nothing changed", x.count(2), 0);
        dueText(x, "motion 0;motion 0;motion 0;motion 0;motion 0;motion 0;motion 0;motion 0 wants 255", 8);
        dueText(x, "motion", -1);
        dueText(x, "season 1", 1);
    }

    private static void promise37Hold() {
        FeatherVotes x = begin("37");
        due("no bird", x.hold(0, 0), Due.BEYOND);
        due("nothing", x.hold(0, -1), 1);
        x.bird(BIRD);
        x.bird(BIRD);
        due("spot 0", x.hold(0, 0), 1);
        due("spot 9", x.hold(9, 1), 1);
        due("holds", x.as(0, 0), 0);
        due("holds", x.as(9, 0), 1);
        due("spots", x.count(7), 2);
        due("spot 10", x.hold(10, 0), Due.BEYOND);
        due("spot -1", x.hold(-1, 0), Due.BEYOND);
        due("bird 2", x.hold(0, 2), Due.BEYOND);
        due("bird -2", x.hold(0, -2), Due.BEYOND);
        due("stays", x.as(0, 0), 0);
        due("the other bird", x.hold(0, 1), 1);
        due("holds", x.as(0, 0), 1);
        due("nothing", x.hold(0, -1), 1);
        due("nothing", x.as(0, 0), Due.MISSING);
    }

    private static void promise38As() {
        FeatherVotes x = begin("38");
        int[] under = {BIRD, BIRD, BIRD, CROW, RAVEN, BIRD, WREN};
        for (int kind = 0; kind <= 6; kind++) {
            x.bird(kind);
            x.hold(kind, kind);
        }
        for (int kind = 0; kind <= 6; kind++) {
            for (int asked = 0; asked <= 6; asked++) {
                boolean is = kind == asked || under[kind] == asked || under[under[kind]] == asked || asked == BIRD;
                due("as " + kind + " " + asked, x.as(kind, asked), is ? kind : Due.KIND);
            }
        }
        due("a tern as a crow", x.as(TERN, CROW), TERN);
        due("a swan as a tern", x.as(SWAN, TERN), Due.KIND);
        x.change(TERN, 0, GULL);
        due("a gull now", x.as(TERN, CROW), Due.KIND);
        due("a gull as a wren", x.as(TERN, WREN), TERN);
        due("nothing", x.as(7, 0), Due.MISSING);
        due("nothing, wrong first", x.as(7, 7), Due.BEYOND);
        due("kind -1", x.as(0, -1), Due.BEYOND);
        due("spot 10", x.as(10, 0), Due.BEYOND);
        due("spot -1", x.as(-1, 0), Due.BEYOND);
    }

    private static void promise39Sheet() {
        FeatherVotes x = begin("39");
        int[] bits = {8, 16, 32};
        for (int b : bits) {
            due("40", x.sheet(0, b, 40), 40);
            due("the last", x.write(0, 39, 1), 1);
            due("none", x.sheet(0, b, 0), 0);
            due("no number", x.write(0, 0, 1), Due.BEYOND);
            due("below 0", x.sheet(0, b, -1), Due.SIZE);
            due("41", x.sheet(0, b, 41), Due.BEYOND);
        }
        due("missing", x.sheet(0, 0, 7), 0);
        due("missing", x.write(0, 0, 1), Due.MISSING);
        due("missing, below 0", x.sheet(0, 0, -1), Due.SIZE);
        due("missing, 41", x.sheet(0, 0, 41), Due.BEYOND);
        due("no sheet", x.sheet(4, 8, 1), Due.BEYOND);
        due("no sheet", x.sheet(-1, 8, -1), Due.BEYOND);
        int[] other = {1, 7, 9, 24, 64, -8};
        for (int b : other) {
            due("other bits", x.sheet(0, b, -1), Due.BEYOND);
        }
        x.bird(BIRD);
        x.sheet(3, 8, 1);
        x.write(3, 0, 9);
        due("changes nothing", x.sheet(3, 8, 41), Due.BEYOND);
        due("changes nothing", x.sheet(3, 0, -1), Due.SIZE);
        due("9 stays", x.load(3), 1);
        due("9 stays", x.of(0, 3), 9);
        due("all 0 again", x.sheet(3, 8, 1), 1);
        x.load(3);
        due("all 0 again", x.of(0, 3), 0);
    }

    /** A number of a sheet is told by stolen(): it is what a bird with such feathers has. */
    private static boolean holds(FeatherVotes x, int s, int v) {
        x.change(0, 3, v);
        return x.stolen(s, 0) == 1;
    }

    private static void promise40Write() {
        FeatherVotes x = begin("40");
        x.bird(BIRD);
        due("missing", x.write(1, 0, 1), Due.MISSING);
        due("missing first", x.write(1, -1, 1), Due.MISSING);
        due("no sheet", x.write(4, 0, 1), Due.BEYOND);
        due("no sheet", x.write(-1, 0, 1), Due.BEYOND);
        x.sheet(1, 8, 1);
        due("no number", x.write(1, 1, 1), Due.BEYOND);
        due("no number", x.write(1, -1, 1), Due.BEYOND);
        due("8 bits", x.write(1, 0, 256 + 5), 1);
        due("8 bits", holds(x, 1, 5) ? 1 : 0, 1);
        due("255 is -1", x.write(1, 0, 255), 1);
        due("which is no feathers", x.load(1), 0);
        x.sheet(1, 16, 1);
        x.write(1, 0, 65536 * 3 + 6);
        due("16 bits", holds(x, 1, 6) ? 1 : 0, 1);
        x.write(1, 0, 256 + 6);
        due("16 bits", holds(x, 1, 6) ? 1 : 0, 0);
        x.write(1, 0, 0xffff);
        due("-1", x.load(1), 0);
        x.sheet(1, 32, 1);
        x.write(1, 0, 65536 + 6);
        due("32 bits", holds(x, 1, 6) ? 1 : 0, 0);
        x.write(1, 0, 6);
        due("32 bits", holds(x, 1, 6) ? 1 : 0, 1);
    }

    private static void promise41Copy() {
        FeatherVotes x = begin("41");
        for (int b = 0; b < 4; b++) {
            x.bird(BIRD);
        }
        x.sheet(0, 8, 4);
        x.sheet(1, 8, 3);
        x.sheet(2, 16, 4);
        for (int i = 0; i < 4; i++) {
            x.write(0, i, 10 + i);
        }
        due("all", x.copy(0, 1, 1, 0, 3), 3);
        due("came", loaded(x, 1, 3), 111213);
        due("forth in one", x.copy(0, 0, 0, 1, 3), 3);
        due("as they were", loaded(x, 0, 4), 10101112);
        due("back in one", x.copy(0, 1, 0, 0, 3), 3);
        due("as they were", loaded(x, 0, 4), 10111212);
        due("none", x.copy(0, 4, 1, 3, 0), 0);
        due("beyond the end", x.copy(0, 5, 1, 0, 0), Due.BEYOND);
        due("too many here", x.copy(1, 0, 0, 0, 4), Due.BEYOND);
        due("too many there", x.copy(0, 0, 1, 0, 4), Due.BEYOND);
        due("too many there", x.copy(0, 0, 1, 1, 3), Due.BEYOND);
        due("below 0", x.copy(0, -1, 1, 0, 1), Due.BEYOND);
        due("below 0", x.copy(0, 0, 1, -1, 1), Due.BEYOND);
        due("below 0", x.copy(0, 0, 1, 0, -1), Due.BEYOND);
        due("great", x.copy(0, Integer.MAX_VALUE, 1, 0, 1), Due.BEYOND);
        due("great", x.copy(0, 1, 1, 1, Integer.MAX_VALUE), Due.BEYOND);
        due("other bits", x.copy(0, 0, 2, 0, 1), Due.KIND);
        due("other bits first", x.copy(0, 0, 2, 0, -1), Due.KIND);
        due("missing", x.copy(0, 0, 3, 0, 1), Due.MISSING);
        due("missing", x.copy(3, 0, 0, 0, 1), Due.MISSING);
        due("no sheet", x.copy(3, 0, 4, 0, 1), Due.BEYOND);
        due("no sheet", x.copy(4, 0, 3, 0, 1), Due.BEYOND);
        due("no sheet", x.copy(-1, 0, 0, 0, 1), Due.BEYOND);
        due("nothing came", loaded(x, 1, 3), 111213);
    }

    private static int loaded(FeatherVotes x, int s, int n) {
        x.load(s);
        int told = 0;
        for (int b = 0; b < n; b++) {
            told = told * 100 + x.of(b, 3);
        }
        return told;
    }

    private static void promise42Load() {
        FeatherVotes x = state("42", "bird has 1 1;bird has 2;bird has 3");
        due("missing", x.load(0), Due.MISSING);
        due("no sheet", x.load(4), Due.BEYOND);
        due("no sheet", x.load(-1), Due.BEYOND);
        x.sheet(0, 32, 5);
        x.write(0, 0, 99);
        x.write(0, 1, 0);
        x.write(0, 2, 100);
        due("100 is none", x.load(0), 2);
        due("99", x.of(0, 3), 99);
        due("0", x.of(1, 3), 0);
        due("stays", x.of(2, 3), 3);
        due("other colours stay", x.of(0, 4), 1);
        x.write(0, 2, 7);
        due("three birds", x.load(0), 3);
        due("7", x.of(2, 3), 7);
        x.write(0, 0, -1);
        due("-1 is none", x.load(0), 0);
        x.sheet(0, 8, 0);
        due("none", x.load(0), 0);
    }

    private static void promise43Judge() {
        FeatherVotes x = state("43", "bird has 2;motion 0 wants 1 effect 1;motion 0;motion 1 wants 1");
        due("missing", x.judge(0), Due.MISSING);
        due("the last sheet", x.judge(3), Due.MISSING);
        x.sheet(3, 16, 40);
        due("40 votes", x.judge(3), 2);
        x.write(3, 39, 3);
        due("the last is no motion", x.judge(3), Due.STATE);
        due("no sheet", x.judge(4), Due.BEYOND);
        due("no sheet", x.judge(-1), Due.BEYOND);
        x.sheet(0, 8, 3);
        due("twice of three times", x.judge(0), 2);
        x.write(0, 0, 1);
        due("once behind another", x.judge(0), 1);
        x.write(0, 2, 3);
        due("no motion", x.judge(0), Due.STATE);
        x.write(0, 2, -1);
        due("no motion", x.judge(0), Due.STATE);
        x.sheet(0, 8, 0);
        due("none", x.judge(0), 0);
        due("nothing changed", x.now(1), 2);
        due("nothing changed", x.now(2), 0);
        due("nothing changed", x.now(4), 0);
        due("nothing changed", x.of(0, 2), 1);
    }

    private static void promises44To46Images() {
        FeatherVotes x = state("44", "bird has 9 8 7 6;motion 0 wants 1 effect 1;season 5");
        due("none", x.undo(), Due.NONE);
        x.hold(3, 0);
        x.seed(77);
        x.vote(0);
        due("image", x.image(), 1);
        feed(x, "bird;swan");
        x.sheet(2, 8, 9);
        due("changes", read(x, " grows 4;motion 1 quorum 7 wants 3 effect 4"), 3);
        x.tell(1, 4, 1);
        x.vote(0);
        x.seasons(2);
        x.clears();
        x.change(0, 0, TERN);
        x.change(0, 1, 50);
        x.tell(0, 1, 9);
        x.tell(0, 4, 0);
        x.hold(3, 1);
        x.hold(4, 0);
        x.years(2);
        x.feed(0, 3);
        due("undo", x.undo(), 5);
        int[] bird = {BIRD, 2, 2, 8, 8, 7, 6};
        for (int what = 0; what < bird.length; what++) {
            due("of " + what, x.of(0, what), bird[what]);
        }
        int[] motion = {0, 1, 1, 1, 1};
        for (int what = 0; what < motion.length; what++) {
            due("told " + what, x.told(0, what), motion[what]);
        }
        int[] counts = {5, 1, 1, 1, 29, 3, 77, 1};
        for (int what = 0; what < counts.length; what++) {
            due("count " + what, x.count(what), counts[what]);
        }
        due("foot", x.now(4), 1);
        due("spot", x.as(3, 0), 0);
        due("sheets stay", x.write(2, 8, 1), 1);
        due("a new bird is as at first", x.bird(SWAN), 1);
        due("keeps", x.of(1, 1), 2);
        due("grows", x.of(1, 2), 1);
        due("feathers", x.of(1, 7), 0);
        due("a new motion is as at first", x.motion(2), 1);
        int[] fresh = {2, 1, 0, 0, 0};
        for (int what = 0; what < fresh.length; what++) {
            due("told " + what, x.told(1, what), fresh[what]);
        }
        due("findings stay", x.status(-1), 1);
        x.seasons(1);
        due("it stays", x.undo(), 5);
        x.seasons(3);
        x.image();
        x.seasons(3);
        due("the latest", x.undo(), 8);
        due("tear", x.tear(), 1);
        due("tear again", x.tear(), 0);
        due("none", x.undo(), Due.NONE);
        due("findings", x.status(3), 2);
    }

    private static void promise47Count() {
        FeatherVotes x = state("47", "bird has 4 3;swan has 1;motion 0 wants 1;motion 1 wants 1;motion 2;season 6");
        x.vote(1);
        x.hold(0, 0);
        x.hold(1, 0);
        x.hold(2, 1);
        x.hold(1, -1);
        x.feed(0, 3);
        x.seed(-9);
        int[] want = {6, 2, 3, 1, 7, 3, -9, 2};
        for (int what = 0; what < want.length; what++) {
            due("count " + what, x.count(what), want[what]);
        }
        due("what 8", x.count(8), Due.BEYOND);
        for (int v : WRONG) {
            due("wrong", x.count(v), Due.BEYOND);
        }
    }

    private static void promise48Status() {
        FeatherVotes x = begin("48");
        x.image();
        due("kind", x.bird(7), Due.BEYOND);
        due("what", x.count(8), Due.BEYOND);
        for (int b = 0; b < 10; b++) {
            due("a tern", x.bird(TERN), b < 8 ? b : Due.FULL);
        }
        x.hold(0, 0);
        due("no wren", x.as(0, WREN), Due.KIND);
        x.motion(0);
        due("won", x.won(0), Due.NONE);
        x.change(0, 2, 0);
        x.tell(0, 2, 1);
        due("when", x.when(0), Due.NONE);
        due("quorum", x.quorum(0), Due.NONE);
        due("missing", x.fits(0), Due.MISSING);
        due("missing", x.fits(1), Due.MISSING);
        due("missing", x.write(2, 0, 0), Due.MISSING);
        due("missing", x.load(3), Due.MISSING);
        for (int s = 0; s < 5; s++) {
            due("size", x.sheet(0, 8, -1), Due.SIZE);
        }
        x.sheet(1, 8, 1);
        x.write(1, 0, 1);
        due("no motion", x.judge(1), Due.STATE);
        int[] want = {2, 2, 1, 3, 1, 4, 5};
        for (int which = 0; which < want.length; which++) {
            due("status " + which, x.status(which), want[which]);
        }
        due("all", x.status(-1), 18);
        due("7", x.status(7), Due.BEYOND);
        due("-2", x.status(-2), Due.BEYOND);
        due("counted", x.status(0), 4);
        due("all", x.status(-1), 20);
        x.undo();
        due("undo takes none back", x.status(-1), 20);
        due("a fault is no finding", read(x, "x"), -1);
        due("all", x.status(-1), 20);
    }
}
