/** For each promise: ordinary calls, the edges that the document names, and wrong numbers. */
public final class PromisesTest {
    private static final int BAD = TriggerScopes.BAD, STATE = TriggerScopes.STATE, FULL = TriggerScopes.FULL,
            NONE = TriggerScopes.NONE;
    private static final Checks CHECKS = new Checks();
    /** Up at 2, 6, 10, .. 38, each two SAMPLES wide, ten in all. */
    private static final String SQUARE = "l0 2;l200 2;x9;";

    public static void main(String[] args) {
        newObject();
        type();
        clear();
        signalItems();
        signalFaults();
        signalChanges();
        sample();
        condition();
        modes();
        holds();
        records();
        undo();
        firesOnEdges();
        firesOnPulses();
        firesOnWindows();
        fires();
        trigger();
        triggerBehind();
        triggerUnless();
        triggerHold();
        record();
        mean();
        joined();
        measure();
        alias();
        sees();
        forget();
        unseen();
        keepAndBack();
        told();
        count();
        CHECKS.end();
    }

    private static void due(String call, long got, long want) {
        CHECKS.due(call, got, want);
    }

    private static void answers(String what, int[] got, int... want) {
        CHECKS.answers(what, got, want);
    }

    private static int[] samplesOf(TriggerScopes x) {
        return Checks.samplesOf(x);
    }

    private static int[] triggersOf(TriggerScopes x) {
        int[] triggers = Checks.triggersOf(x);
        due("a trigger more", x.trigger(triggers.length), NONE);
        return triggers;
    }

    private static int[] firesOf(int kind, int p, int q, int w, String text) {
        return Checks.firesOf(kind, p, q, w, text);
    }

    private static void setupIs(String when, TriggerScopes x, int... want) {
        answers(when, Checks.setupOf(x), want);
    }

    private static void firstSetupIs(String when, TriggerScopes x) {
        setupIs(when, x, 0, 128, 120, 0, 0, 128, 120, 0, 0, 20, 0, 4, 16);
    }

    private static void newObject() {
        TriggerScopes x = new TriggerScopes();
        firstSetupIs("new", x);
        due("new: samples", x.count(0), 0);
        due("new: seen", x.count(6), 0);
        due("new: letters", x.count(7), 0);
        due("new: may be undone", x.count(8), 0);
        due("new: image 0", x.back(0), STATE);
        due("new: image 1", x.back(1), STATE);
        TriggerScopes y = Checks.scope("l1 1;");
        due("two objects share nothing", x.count(0) + 10 * y.count(0), 10);
    }

    private static void type() {
        TriggerScopes x = new TriggerScopes();
        due("type(0)", x.type(0), 1);
        due("type(255)", x.type(255), 2);
        due("type(-1)", x.type(-1), BAD);
        due("type(256)", x.type(256), BAD);
        due("refused letters do not come", x.count(7), 2);
        for (int i = 3; i <= 100; i++) {
            due("type " + i, x.type('l'), i);
        }
        due("type beyond 100", x.type('l'), FULL);
        due("BAD is ahead of FULL", x.type(300), BAD);
        due("still 100", x.count(7), 100);
    }

    private static void clear() {
        TriggerScopes x = Checks.scope("l5 2;");
        due("clear, empty", x.clear(), 0);
        Checks.typeAll(x, "zz");
        due("clear", x.clear(), 2);
        due("cleared", x.count(7), 0);
        due("the signal stays", x.count(0), 2);
        due("signal of no letters", x.signal(), 0);
    }

    private static void signalItems() {
        answers("levels", samplesOf(Checks.scope("l 5 2;l255 1;l0 1;")), 5, 5, 255, 0);
        answers("slope from 0", samplesOf(Checks.scope("r10 3;")), 3, 6, 10);
        answers("slope up", samplesOf(Checks.scope("l7 1;r10 2;")), 7, 8, 10);
        answers("slope down, cut toward 0", samplesOf(Checks.scope("l10 1;r7 2;r0 3;")), 10, 9, 7, 5, 3, 0);
        answers("slope of one", samplesOf(Checks.scope("r9 1;r4 1;")), 9, 4);
        answers("slope behind x goes from the last", samplesOf(Checks.scope("l1 1;l9 1;x1;r1 2;")), 1, 9, 1, 9, 5, 1);
        answers("once more", samplesOf(Checks.scope("l1 1;l2 1;x1;")), 1, 2, 1, 2);
        answers("x of x", samplesOf(Checks.scope("l1 1;x1;l2 1;x1;")), 1, 1, 2, 1, 1, 2);
        answers("x of none", samplesOf(Checks.scope("x30;l3 1;")), 3);
        answers("blanks everywhere", samplesOf(Checks.scope("  l  4   2  ;   x 1 ;  ")), 4, 4, 4, 4);
        answers("blanks alone", samplesOf(Checks.scope("   ")));
        due("300 by l", Checks.tell(new TriggerScopes(), "l0 300;"), 300);
        due("300 by x", Checks.tell(new TriggerScopes(), "l0 10;x29;"), 300);
        due("300 by r", Checks.tell(new TriggerScopes(), "l0 299;r1 1;"), 300);
        due("x of none in a full text", Checks.tell(new TriggerScopes(), "x1;x1;l0 300;"), 300);
    }

    private static void fault(String text, int place) {
        due("fault of '" + text + "'", Checks.tell(new TriggerScopes(), text), -10 - place);
    }

    private static void signalFaults() {
        fault(";", 0);
        fault(" 5", 1);
        fault("L5 1;", 0);
        fault("l5 1;\t", 5);
        fault("l5 1;;", 5);
        fault("l;", 1);
        fault("l x", 2);
        fault("l5;", 2);
        fault("l5 1 1;", 5);
        fault("l5 l", 3);
        fault("x1 1;", 3);
        fault("l256 1;", 1);
        fault("l2555555555555555555555 1;", 1);
        fault("l4294967296 1;", 1);
        fault("l00 1;", 1);
        fault("l01 1;", 1);
        fault("l1 01;", 3);
        fault("l1 0;", 3);
        fault("l1 301;", 3);
        fault("l1 4294967297;", 3);
        fault("r1 0;", 3);
        fault("x0;", 1);
        fault("x31;", 1);
        fault("x01;", 1);
        fault("l0 300;l0 1;", 10);
        fault("l0 300;r0 1;", 10);
        fault("l0 300;x1;", 8);
        fault("l0 10;x30;", 7);
        fault("l0 300;l0 1", 10);
        fault("l1 301", 3);
        fault("l", 1);
        fault("l ", 2);
        fault("l1", 2);
        fault("l1 1", 4);
        fault("l1 1   ", 7);
        fault("x", 1);
        fault("l1 1;x1", 7);
        fault("l-1 1;", 1);
    }

    private static void signalChanges() {
        TriggerScopes x = Checks.scope("l3 2;");
        due("text is empty behind signal", x.count(7), 0);
        Checks.typeAll(x, "l9 9;y");
        due("signal with a fault", x.signal(), -15);
        due("a fault leaves the text", x.count(7), 6);
        answers("a fault leaves the signal", samplesOf(x), 3, 3);
        x.clear();
        x.condition(0, 1, 9, 9, 9);
        x.sees(1, 1);
        due("signal anew", Checks.tell(x, "r8 4;"), 4);
        answers("anew, from 0 again", samplesOf(x), 2, 4, 6, 8);
        due("what was done stays", x.told(0, 0), 1);
        due("what may be undone stays", x.count(8), 1);
        due("what was seen stays", x.count(6), 1);
        due("signal of an empty text", x.signal(), 0);
        due("no samples", x.count(0), 0);
    }

    private static void sample() {
        TriggerScopes x = Checks.scope("l3 1;l4 1;");
        due("sample(0)", x.sample(0), 3);
        due("sample(1)", x.sample(1), 4);
        due("sample(2)", x.sample(2), BAD);
        due("sample(-1)", x.sample(-1), BAD);
        due("sample(max)", x.sample(Integer.MAX_VALUE), BAD);
        due("sample(min)", x.sample(Integer.MIN_VALUE), BAD);
    }

    private static void condition() {
        TriggerScopes x = new TriggerScopes();
        due("condition as it is", x.condition(0, 0, 128, 120, 0), STATE);
        due("condition", x.condition(1, 5, 255, 255, 300), 1);
        setupIs("B told", x, 0, 128, 120, 0, 5, 255, 255, 300, 0, 20, 0, 4, 16);
        due("the same again", x.condition(1, 5, 255, 255, 300), STATE);
        due("the other one is not that", x.condition(0, 5, 255, 255, 300), 1);
        due("w alone differs", x.condition(0, 5, 255, 255, 299), 1);
        due("q alone differs", x.condition(0, 5, 255, 254, 299), 1);
        due("p alone differs", x.condition(0, 5, 254, 254, 299), 1);
        due("kind alone differs", x.condition(0, 4, 254, 254, 299), 1);
        due("all 0", x.condition(0, 0, 0, 0, 0), 1);
        due("c below", x.condition(-1, 0, 0, 0, 0), BAD);
        due("c above", x.condition(2, 0, 0, 0, 0), BAD);
        due("kind below", x.condition(0, -1, 0, 0, 0), BAD);
        due("kind above", x.condition(0, 6, 0, 0, 0), BAD);
        due("p below", x.condition(0, 0, -1, 0, 0), BAD);
        due("p above", x.condition(0, 0, 256, 0, 0), BAD);
        due("q below", x.condition(0, 0, 0, -1, 0), BAD);
        due("q above", x.condition(0, 0, 0, 256, 0), BAD);
        due("w below", x.condition(0, 0, 0, 0, -1), BAD);
        due("w above", x.condition(0, 0, 0, 0, 301), BAD);
        due("refused ones are not known", x.count(8), 7);
    }

    private static void modes() {
        TriggerScopes x = new TriggerScopes();
        due("modes as they are", x.modes(0, 20), STATE);
        due("span alone", x.modes(0, 300), 1);
        due("mode alone", x.modes(2, 300), 1);
        due("both", x.modes(1, 1), 1);
        due("again", x.modes(1, 1), STATE);
        due("mode below", x.modes(-1, 5), BAD);
        due("mode above", x.modes(3, 5), BAD);
        due("span below", x.modes(0, 0), BAD);
        due("span above", x.modes(0, 301), BAD);
        setupIs("modes", x, 0, 128, 120, 0, 0, 128, 120, 0, 1, 1, 0, 4, 16);
    }

    private static void holds() {
        TriggerScopes x = new TriggerScopes();
        due("hold as it is", x.holds(0), STATE);
        due("holds(300)", x.holds(300), 0);
        due("holds(7)", x.holds(7), 300);
        due("again", x.holds(7), STATE);
        due("below", x.holds(-1), BAD);
        due("above", x.holds(301), BAD);
        setupIs("holds", x, 0, 128, 120, 0, 0, 128, 120, 0, 0, 20, 7, 4, 16);
    }

    private static void records() {
        TriggerScopes x = new TriggerScopes();
        due("records as they are", x.records(4, 16), STATE);
        due("pre alone", x.records(63, 16), 1);
        due("long alone", x.records(63, 64), 1);
        due("pre above long", x.records(63, 1), 1);
        due("again", x.records(63, 1), STATE);
        due("pre below", x.records(-1, 5), BAD);
        due("pre above", x.records(64, 5), BAD);
        due("long below", x.records(0, 0), BAD);
        due("long above", x.records(0, 65), BAD);
        setupIs("records", x, 0, 128, 120, 0, 0, 128, 120, 0, 0, 20, 0, 63, 1);
    }

    private static void undo() {
        TriggerScopes x = new TriggerScopes();
        due("undo of none", x.undo(), STATE);
        x.condition(0, 1, 2, 3, 4);
        x.condition(1, 2, 3, 4, 5);
        x.modes(1, 9);
        x.holds(8);
        x.records(7, 6);
        setupIs("all done", x, 1, 2, 3, 4, 2, 3, 4, 5, 1, 9, 8, 7, 6);
        due("may be undone", x.count(8), 5);
        x.holds(301);
        x.holds(8);
        due("refused ones do not count", x.count(8), 5);
        due("undo records", x.undo(), 4);
        setupIs("records undone", x, 1, 2, 3, 4, 2, 3, 4, 5, 1, 9, 8, 4, 16);
        due("undo holds", x.undo(), 3);
        setupIs("hold undone", x, 1, 2, 3, 4, 2, 3, 4, 5, 1, 9, 0, 4, 16);
        due("undo modes", x.undo(), 2);
        setupIs("modes undone", x, 1, 2, 3, 4, 2, 3, 4, 5, 0, 20, 0, 4, 16);
        due("undo B", x.undo(), 1);
        setupIs("B undone", x, 1, 2, 3, 4, 0, 128, 120, 0, 0, 20, 0, 4, 16);
        due("undo A", x.undo(), 0);
        firstSetupIs("all undone", x);
        due("none more", x.undo(), STATE);
        undoIsShort();
    }

    private static void undoIsShort() {
        TriggerScopes x = new TriggerScopes();
        for (int n = 1; n <= 13; n++) {
            x.holds(n);
            due("known", x.count(8), Math.min(n, 10));
        }
        for (int left = 9; left >= 0; left--) {
            due("undo", x.undo(), left);
            due("hold", x.count(3), 3 + left);
        }
        due("older ones are lost", x.undo(), STATE);
        due("hold stays", x.count(3), 3);
        Checks.tell(x, "l1 1;");
        x.sees(0, 0);
        x.keep(0);
        due("signal, sees and keep are not undone", x.undo(), STATE);
    }

    private static void firesOnEdges() {
        String steps = Checks.levels(10, 5, 20, 15, 20, 10, 19, 20, 25, 9, 20);
        answers("rising, p and q count", firesOf(0, 20, 10, 0, steps), 2, 7, 10);
        answers("falling, p and q count", firesOf(1, 20, 10, 0, steps), 5, 9);
        answers("rising never at sample 0", firesOf(0, 0, 255, 0, "l7 1;"));
        answers("rising, a sample that fires arms nothing", firesOf(0, 0, 255, 0, "l7 6;"), 1, 3, 5);
        answers("falling, a sample that fires arms nothing", firesOf(1, 0, 255, 0, "l7 5;"), 1, 3);
        answers("rising, not armed at first", firesOf(0, 20, 10, 0, Checks.levels(20, 11, 20)));
        answers("falling, armed by sample 0", firesOf(1, 20, 10, 0, Checks.levels(20, 10, 10, 11, 9)), 1);
    }

    private static void firesOnPulses() {
        String pulses = Checks.levels(50, 0, 50, 0, 50, 99, 0, 100, 0, 50, 50, 50, 0, 49, 0, 60);
        answers("runt", firesOf(2, 50, 100, 0, pulses), 3, 6, 12);
        answers("runt, q as p", firesOf(2, 50, 50, 0, pulses));
        answers("runt, q just above p", firesOf(2, 50, 51, 0, pulses), 3, 12);
        answers("runt at 0: no sample is below", firesOf(2, 0, 255, 0, pulses));
        answers("width 1", firesOf(3, 50, 1, 1, pulses), 3, 8);
        answers("width 2 to 3", firesOf(3, 50, 2, 3, pulses), 6, 12);
        answers("width 0 to 300", firesOf(3, 50, 0, 300, pulses), 3, 6, 8, 12);
        answers("width 0 to 0", firesOf(3, 50, 0, 0, pulses));
        answers("width, w below q", firesOf(3, 50, 2, 1, pulses));
        answers("width 255", firesOf(3, 1, 255, 255, "l0 1;l9 255;l0 1;"), 256);
        answers("a row at the beginning or the end is none", firesOf(3, 1, 0, 300, "l9 3;l0 1;l9 3;"));
    }

    private static void firesOnWindows() {
        String steps = Checks.levels(15, 9, 10, 20, 21, 20, 30, 0, 12);
        answers("entered", firesOf(4, 10, 20, 0, steps), 2, 5, 8);
        answers("entered, greater first", firesOf(4, 20, 10, 0, steps), 2, 5, 8);
        answers("left", firesOf(5, 10, 20, 0, steps), 1, 4, 6);
        answers("left, greater first", firesOf(5, 20, 10, 0, steps), 1, 4, 6);
        answers("entered, a window of one", firesOf(4, 20, 20, 0, steps), 3, 5);
        answers("never at sample 0", firesOf(4, 0, 255, 0, "l1 3;"));
    }

    private static void fires() {
        TriggerScopes x = Checks.scope(SQUARE);
        x.condition(1, 1, 128, 120, 0);
        due("A", x.fires(0, 0), 2);
        due("B", x.fires(1, 0), 4);
        due("last of A", x.fires(0, 9), 38);
        due("last of B", x.fires(1, 8), 36);
        due("none", x.fires(0, 10), NONE);
        due("none by far", x.fires(0, Integer.MAX_VALUE), NONE);
        due("k below", x.fires(0, -1), BAD);
        due("c below", x.fires(-1, 0), BAD);
        due("c above", x.fires(2, 0), BAD);
    }

    private static void trigger() {
        TriggerScopes x = Checks.scope(SQUARE);
        answers("alone", triggersOf(x), 2, 6, 10, 14, 18, 22, 26, 30, 34, 38);
        due("far", x.trigger(Integer.MAX_VALUE), NONE);
        due("below", x.trigger(-2), BAD);
        due("far below", x.trigger(Integer.MIN_VALUE), BAD);
        x.condition(1, 1, 128, 120, 0);
        due("B is not asked", x.trigger(-1), 10);
    }

    /** A fires at 2, 12; B at 5, 12, 30. */
    private static TriggerScopes twoConditions() {
        TriggerScopes x = Checks.scope("l0 2;l50 1;l0 2;l200 1;l0 6;l100 1;l0 17;l200 1;l0 5;");
        x.condition(0, 4, 50, 100, 0);
        x.condition(1, 4, 100, 200, 0);
        return x;
    }

    private static void triggerBehind() {
        TriggerScopes x = twoConditions();
        x.modes(1, 2);
        answers("behind, span 2", triggersOf(x));
        x.modes(1, 3);
        answers("behind, span 3", triggersOf(x), 5);
        x.modes(1, 9);
        answers("behind, span 9: A at t itself does not count", triggersOf(x), 5);
        x.modes(1, 10);
        answers("behind, span 10", triggersOf(x), 5, 12);
        x.modes(1, 17);
        answers("behind, span 17", triggersOf(x), 5, 12);
        x.modes(1, 18);
        answers("behind, span 18", triggersOf(x), 5, 12, 30);
        x.modes(1, 300);
        answers("behind, span 300", triggersOf(x), 5, 12, 30);
        x.condition(0, 4, 100, 100, 0);
        answers("behind, B ahead of the first A", triggersOf(x), 30);
        x.condition(0, 4, 7, 7, 0);
        answers("behind, A never", triggersOf(x));
    }

    private static void triggerUnless() {
        TriggerScopes x = twoConditions();
        x.modes(2, 2);
        answers("unless, span 2: B at t itself does not count", triggersOf(x), 2, 12);
        x.modes(2, 3);
        answers("unless, span 3", triggersOf(x), 12);
        x.modes(2, 17);
        answers("unless, span 17", triggersOf(x), 12);
        x.modes(2, 18);
        answers("unless, span 18", triggersOf(x));
        x.condition(1, 2, 255, 255, 0);
        x.modes(2, 300);
        answers("unless, B never", triggersOf(x), 2, 12);
    }

    private static void triggerHold() {
        TriggerScopes x = Checks.scope(SQUARE);
        x.holds(3);
        due("hold 3", x.trigger(-1), 10);
        x.holds(4);
        answers("hold 4", triggersOf(x), 2, 10, 18, 26, 34);
        x.holds(8);
        answers("hold 8", triggersOf(x), 2, 14, 26, 38);
        x.holds(36);
        answers("hold 36", triggersOf(x), 2);
        x = twoConditions();
        x.modes(1, 300);
        x.holds(7);
        answers("hold counts from TRIGGERS, not from places", triggersOf(x), 5, 30);
    }

    private static void record() {
        TriggerScopes x = Checks.scope("l1 3;r241 8;l0 4;l200 1;l7 1;");
        answers("triggers", triggersOf(x), 7, 15);
        due("of 16 places: none", x.record(-1, 0), 0);
        due("j is no matter", x.record(-1, Integer.MIN_VALUE), 0);
        due("none", x.record(0, 0), NONE);
        due("none, j -1", x.record(0, -1), NONE);
        due("BAD is ahead of none", x.record(0, 16), BAD);
        x.records(7, 9);
        due("begins at sample 0, and the last ends at the end", x.record(-1, 5), 2);
        due("trigger", x.record(0, -1), 7);
        due("place 0", x.record(0, 0), 1);
        due("place 7", x.record(0, 7), 151);
        due("place 8", x.record(0, 8), 181);
        due("record 1", x.record(1, 7), 200);
        due("record 1, last", x.record(1, 8), 7);
        due("no record 2", x.record(2, 0), NONE);
        due("j above", x.record(0, 9), BAD);
        due("j below", x.record(0, -2), BAD);
        due("k below", x.record(-2, 0), BAD);
        x.records(8, 9);
        due("record 0 is of the first that gives one", x.record(0, -1), 15);
        x.records(7, 10);
        due("too long for the last", x.record(-1, 0), 1);
        x.records(7, 2);
        due("ends ahead of its trigger", x.record(1, 1), 211);
        x.records(0, 1);
        due("the trigger alone", x.record(1, 0), 200);
        due("as many as triggers", x.record(-1, 0), 2);
    }

    /** Records of two places: 0 and each of 200, 201, 203, 209. */
    private static TriggerScopes fourRecords() {
        TriggerScopes x = Checks.scope("l0 3;l200 1;l10 3;l201 1;l9 3;l203 1;l8 3;l209 1;");
        x.records(1, 2);
        return x;
    }

    private static void mean() {
        TriggerScopes x = fourRecords();
        due("mean", x.mean(1, 0), 203);
        due("low", x.mean(1, 1), 200);
        due("high", x.mean(1, 2), 209);
        due("mean of place 0, cut", x.mean(0, 0), 6);
        due("low of place 0", x.mean(0, 1), 0);
        due("high of place 0", x.mean(0, 2), 10);
        due("j above", x.mean(2, 0), BAD);
        due("j below", x.mean(-1, 0), BAD);
        due("what above", x.mean(0, 3), BAD);
        due("what below", x.mean(0, -1), BAD);
        x.records(63, 64);
        due("no records, mean", x.mean(0, 0), NONE);
        due("no records, low", x.mean(0, 1), NONE);
        due("no records, high", x.mean(63, 2), NONE);
        due("BAD is ahead of none", x.mean(64, 0), BAD);
    }

    private static void joined() {
        TriggerScopes x = fourRecords();
        due("by 1", x.joined(1, 1), 203);
        due("by 2, place 0: records 0, 2", x.joined(2, 0), 4);
        due("by 2, place 1: records 1, 3", x.joined(2, 1), 205);
        due("by 3, place 0: records 0, 3", x.joined(3, 0), 4);
        due("by 3, place 1: record 1", x.joined(3, 1), 201);
        due("by 16, place 0", x.joined(16, 0), 0);
        x.records(3, 4);
        due("by 3, place 3: as place 0", x.joined(3, 3), 204);
        x.records(0, 1);
        x.holds(300);
        due("one record", x.joined(16, 0), 200);
        x.records(1, 2);
        due("place 1 was not sampled", x.joined(2, 1), NONE);
        due("s below", x.joined(0, 0), BAD);
        due("s above", x.joined(17, 0), BAD);
        due("j below", x.joined(1, -1), BAD);
        due("j above", x.joined(1, 2), BAD);
        x.records(63, 64);
        due("no records", x.joined(1, 0), NONE);
    }

    private static void measure() {
        TriggerScopes x = Checks.scope(Checks.levels(9, 1, 5, 4, 6, 7, 1, 8, 3, 9, 2));
        int[] whole = new int[7];
        for (int what = 0; what < 7; what++) {
            whole[what] = x.measure(0, 10, what);
        }
        answers("whole", whole, 9, 1, 4, 7, 3, 4, 7);
        due("gates: a rise needs its sample ahead", x.measure(2, 10, 2), 3);
        due("period of 5 by 2", x.measure(3, 10, 3), 5);
        due("lower", x.measure(3, 10, 4), 2);
        due("duty of 3 by 5", x.measure(3, 10, 5), 3);
        due("lower of duty", x.measure(3, 10, 6), 5);
        due("one gate for both", x.measure(5, 5, 0), 7);
        due("dip of one", x.measure(5, 5, 1), 7);
        due("rises of one", x.measure(5, 5, 2), 0);
        due("one rise", x.measure(1, 2, 2), 1);
        for (int what = 3; what <= 6; what++) {
            due("none of one rise", x.measure(1, 2, what), NONE);
        }
        due("two rises", x.measure(6, 9, 2), 2);
        due("period of two rises", x.measure(6, 9, 3), 2);
        due("duty of two rises", x.measure(6, 9, 6), 2);
        due("a above b", x.measure(2, 1, 0), BAD);
        due("a below", x.measure(-1, 1, 0), BAD);
        due("b above", x.measure(0, 11, 0), BAD);
        due("what below", x.measure(0, 10, -1), BAD);
        due("what above", x.measure(0, 10, 7), BAD);
        x = Checks.scope(Checks.levels(0, 5, 6, 5, 10, 4, 5));
        due("behind a sample of MIDDLE there is no rise", x.measure(0, 6, 2), 2);
        x = Checks.scope(Checks.levels(0, 9, 3, 4, 0));
        due("MIDDLE is cut", x.measure(0, 4, 2), 2);
        x = Checks.scope("l0 2;l9 2;x9;");
        due("period in least terms", x.measure(0, 39, 3), 4);
        due("by 1", x.measure(0, 39, 4), 1);
        due("duty in least terms", x.measure(0, 39, 5), 1);
        due("by 2", x.measure(0, 39, 6), 2);
    }

    private static void alias() {
        TriggerScopes x = Checks.scope(SQUARE);
        due("by 2", x.alias(2), 10);
        due("by 3", x.alias(3), 4);
        due("by 4: 0 alone", x.alias(4), 0);
        due("by 16", x.alias(16), 0);
        x.holds(2);
        due("hold counts slow samples", x.alias(2), 5);
        due("nothing changed", x.count(0), 40);
        due("triggers as they were", x.trigger(-1), 10);
        due("below", x.alias(1), BAD);
        due("above", x.alias(17), BAD);
        x = Checks.scope("l200 4;");
        x.condition(0, 1, 128, 120, 0);
        due("no sample comes behind the last", x.alias(2), 0);
        x = twoConditions();
        // Every other SAMPLE: A fires at 1, 6, B at 6, 15.
        x.modes(1, 4);
        due("span 4", x.alias(2), 0);
        x.modes(1, 5);
        due("span counts slow samples", x.alias(2), 1);
        x.modes(1, 9);
        due("span 9", x.alias(2), 2);
    }

    private static void sees() {
        TriggerScopes x = new TriggerScopes();
        due("place below", x.sees(-1, 0), BAD);
        due("place above", x.sees(300, 0), BAD);
        due("is below", x.sees(0, -1), BAD);
        due("is above", x.sees(0, 2), BAD);
        due("refused ones are not seen", x.count(6), 0);
        for (int i = 1; i <= 6; i++) {
            due("sees", x.sees(i == 1 ? 299 : 0, i % 2), i);
        }
        due("full", x.sees(1, 1), FULL);
        due("BAD is ahead of FULL", x.sees(300, 1), BAD);
        due("six", x.count(6), 6);
    }

    private static void forget() {
        TriggerScopes x = new TriggerScopes();
        due("forget of none", x.forget(), 0);
        x.sees(0, 1);
        x.sees(1, 0);
        due("none fires without samples", x.unseen(), 0);
        due("forget", x.forget(), 2);
        due("forgotten", x.count(6), 0);
        due("all kinds again", x.unseen(), 63);
        due("sees anew", x.sees(5, 0), 1);
    }

    private static void unseen() {
        TriggerScopes x = Checks.scope(Checks.levels(0, 60, 0, 200, 0));
        x.condition(0, 3, 50, 100, 300);
        // RISING at 1 (and 3); FALLING at 2 (60 arms it); RUNT at 2; WIDTH never; ENTERED at 1; LEFT at 2.
        x.sees(2, 1);
        due("at 2", x.unseen(), 2 + 4 + 32);
        x.sees(4, 0);
        due("not at 4", x.unseen(), 4 + 32);
        x.sees(299, 0);
        due("not where no sample is", x.unseen(), 4 + 32);
        x.condition(1, 0, 1, 1, 1);
        due("B is no matter", x.unseen(), 4 + 32);
        x.condition(0, 0, 50, 60, 300);
        due("by the numbers as they are when asked", x.unseen(), 32);
        Checks.tell(x, Checks.levels(0, 60, 0, 60, 70));
        due("by the signal as it is when asked", x.unseen(), 2);
        x.sees(2, 0);
        due("both seen at 2: none", x.unseen(), 0);
        x.forget();
        x.sees(299, 1);
        due("fires where no sample is: none", x.unseen(), 0);
    }

    private static void keepAndBack() {
        TriggerScopes x = Checks.scope("l1 1;");
        x.condition(0, 1, 2, 3, 4);
        x.modes(2, 9);
        due("keep", x.keep(0), 2);
        due("keep can't be undone", x.count(8), 2);
        x.undo();
        x.undo();
        firstSetupIs("undone", x);
        due("keep the other", x.keep(1), 0);
        x.condition(1, 5, 5, 5, 5);
        x.holds(3);
        x.records(2, 1);
        x.sees(0, 1);
        Checks.tell(x, "l1 2;");
        Checks.typeAll(x, "l");
        due("back", x.back(0), 2);
        setupIs("as kept", x, 1, 2, 3, 4, 0, 128, 120, 0, 2, 9, 0, 4, 16);
        due("nothing can be undone", x.undo(), STATE);
        due("samples stay", x.count(0), 2);
        due("seen stays", x.count(6), 1);
        due("text stays", x.count(7), 1);
        x.holds(5);
        due("undo behind back", x.undo(), 0);
        due("not further", x.undo(), STATE);
        x.holds(5);
        due("the other", x.back(1), 0);
        firstSetupIs("as kept in 1", x);
        due("an image stays kept", x.back(0), 2);
        x.holds(6);
        due("kept anew", x.keep(0), 2);
        x.holds(7);
        x.back(0);
        due("as kept anew", x.count(3), 6);
        due("keep below", x.keep(-1), BAD);
        due("keep above", x.keep(2), BAD);
        due("back below", x.back(-1), BAD);
        due("back above", x.back(2), BAD);
        x = new TriggerScopes();
        x.holds(1);
        due("none was kept", x.back(0), STATE);
        due("a refused back leaves what may be undone", x.undo(), 0);
    }

    private static void told() {
        TriggerScopes x = new TriggerScopes();
        x.condition(1, 4, 5, 6, 7);
        answers("B", new int[] {x.told(1, 0), x.told(1, 1), x.told(1, 2), x.told(1, 3)}, 4, 5, 6, 7);
        answers("A", new int[] {x.told(0, 0), x.told(0, 1), x.told(0, 2), x.told(0, 3)}, 0, 128, 120, 0);
        due("c below", x.told(-1, 0), BAD);
        due("c above", x.told(2, 0), BAD);
        due("what below", x.told(0, -1), BAD);
        due("what above", x.told(0, 4), BAD);
    }

    private static void count() {
        TriggerScopes x = Checks.scope("l1 7;");
        x.modes(1, 8);
        x.holds(9);
        x.records(10, 11);
        x.sees(0, 0);
        Checks.typeAll(x, "xx");
        int[] got = new int[9];
        for (int what = 0; what < 9; what++) {
            got[what] = x.count(what);
        }
        answers("count", got, 7, 1, 8, 9, 10, 11, 1, 2, 3);
        due("below", x.count(-1), BAD);
        due("above", x.count(9), BAD);
    }
}
