/**
 * The document's sentences that name a boundary case of what is done, undone, SEEN and kept: promises 6 to 10, 18 to
 * 24 and their terms.
 */
public final class DoneBoundsTest {
    private static final int BAD = TriggerScopes.BAD, STATE = TriggerScopes.STATE, FULL = TriggerScopes.FULL;
    private static final Checks CHECKS = new Checks();
    private static final Twins TWINS = new Twins(CHECKS);

    public static void main(String[] args) {
        conditionNumbers();
        conditionAllowed();
        conditionAsItIs();
        modeNumbers();
        modesAsTheyAre();
        holdNumbers();
        holdAsItIs();
        recordNumbers();
        recordsAsTheyAre();
        undoneOneByOne();
        undoneTen();
        undoneAreThoseNotRefused();
        undoneAgainAndAnew();
        seenNumbers();
        seenSix();
        seenTwice();
        forget();
        unseenWhereNoSampleIs();
        unseenAsItIsWhenAsked();
        unseenEachKind();
        imageNumbers();
        imagesNotKept();
        imagesKeep();
        backLeavesTheRest();
        toldNumbers();
        countNumbers();
        countLimits();
        CHECKS.end();
    }

    private static void due(String call, long got, long want) {
        CHECKS.due(call, got, want);
    }

    private static void setupIs(String when, TriggerScopes x, int... want) {
        CHECKS.answers(when, Checks.setupOf(x), want);
    }

    private static void conditionNumbers() {
        CHECKS.sentence("A CONDITION (0, 1) becomes of a KIND with numbers p, q, w (p, q 0 .. 255, w 0 .. 300). BAD");
        TWINS.badOutside("condition, c", 0, 1, (x, n) -> x.condition(n, 1, 2, 3, 4));
        TWINS.badOutside("condition, KIND", 0, 5, (x, n) -> x.condition(0, n, 2, 3, 4));
        TWINS.badOutside("condition, KIND of B", 0, 5, (x, n) -> x.condition(1, n, 2, 3, 4));
        TWINS.badOutside("condition, p", 0, 255, (x, n) -> x.condition(0, 1, n, 3, 4));
        TWINS.badOutside("condition, p of B", 0, 255, (x, n) -> x.condition(1, 1, n, 3, 4));
        TWINS.badOutside("condition, q", 0, 255, (x, n) -> x.condition(0, 1, 2, n, 4));
        TWINS.badOutside("condition, q of B", 0, 255, (x, n) -> x.condition(1, 1, 2, n, 4));
        TWINS.badOutside("condition, w", 0, 300, (x, n) -> x.condition(0, 1, 2, 3, n));
        TWINS.badOutside("condition, w of B", 0, 300, (x, n) -> x.condition(1, 1, 2, 3, n));
        TWINS.bad("condition, all wrong", x -> x.condition(2, 6, 256, 256, 301));
        // All but one of the numbers being as they are is no STATE if that one is BAD.
        TWINS.bad("condition, c wrong, else as at first", x -> x.condition(2, 0, 128, 120, 0));
        TWINS.bad("condition, w wrong, else as at first", x -> x.condition(0, 0, 128, 120, 301));
        // p, q and w are bound alike in each KIND.
        for (int kind = 0; kind <= 5; kind++) {
            int each = kind;
            TWINS.bad("condition, p 256 in KIND " + kind, x -> x.condition(0, each, 256, 0, 0));
            TWINS.bad("condition, q 256 in KIND " + kind, x -> x.condition(0, each, 0, 256, 0));
            TWINS.bad("condition, w 301 in KIND " + kind, x -> x.condition(0, each, 0, 0, 301));
        }
    }

    private static void conditionAllowed() {
        CHECKS.sentence("A CONDITION (0, 1) becomes of a KIND with numbers p, q, w: 1");
        for (int kind = 0; kind <= 5; kind++) {
            TriggerScopes x = new TriggerScopes();
            due("A, the least", x.condition(0, kind, 0, 0, 0), 1);
            due("B, the most", x.condition(1, kind, 255, 255, 300), 1);
            setupIs("least and most", x, kind, 0, 0, 0, kind, 255, 255, 300, 0, 20, 0, 4, 16);
            due("A, the most", x.condition(0, kind, 255, 255, 300), 1);
            due("B, the least", x.condition(1, kind, 0, 0, 0), 1);
            setupIs("most and least", x, kind, 255, 255, 300, kind, 0, 0, 0, 0, 20, 0, 4, 16);
            due("p below q", x.condition(0, kind, 0, 255, 0), 1);
            due("q above w", x.condition(0, kind, 255, 255, 1), 1);
            due("done", x.count(8), 6);
        }
    }

    private static void conditionAsItIs() {
        CHECKS.sentence("condition .. STATE: it is that");
        TWINS.changesNothing("A as at first", Twins.NEW, STATE, x -> x.condition(0, 0, 128, 120, 0));
        TWINS.changesNothing("B as at first", Twins.NEW, STATE, x -> x.condition(1, 0, 128, 120, 0));
        TWINS.changesNothing("A as it is", Twins.BUSY, STATE, x -> x.condition(0, 0, 100, 80, 1));
        TWINS.changesNothing("B as it is", Twins.BUSY, STATE, x -> x.condition(1, 1, 128, 120, 3));
        TWINS.changesNothing("A as it is", Twins.CRAMMED, STATE, x -> x.condition(0, 3, 60, 1, 300));
        TWINS.changesNothing("B as it is", Twins.CRAMMED, STATE, x -> x.condition(1, 5, 100, 150, 0));
        // One number that differs is enough; w counts in a KIND that does not use it, too.
        due("KIND differs", new TriggerScopes().condition(0, 1, 128, 120, 0), 1);
        due("p differs", new TriggerScopes().condition(0, 0, 127, 120, 0), 1);
        due("q differs", new TriggerScopes().condition(0, 0, 128, 121, 0), 1);
        due("w differs", new TriggerScopes().condition(0, 0, 128, 120, 1), 1);
        due("p and q changed about", new TriggerScopes().condition(0, 0, 120, 128, 0), 1);
        TriggerScopes x = new TriggerScopes();
        x.condition(0, 4, 1, 2, 3);
        due("A as B is", x.condition(0, 0, 128, 120, 0), 1);
        due("B as A was", x.condition(1, 4, 1, 2, 3), 1);
    }

    private static void modeNumbers() {
        CHECKS.sentence("MODE 0, 1, 2; SPAN 1 .. 300. BAD");
        TWINS.badOutside("modes, MODE", 0, 2, (x, n) -> x.modes(n, 9));
        TWINS.badOutside("modes, SPAN in MODE 0", 1, 300, (x, n) -> x.modes(0, n));
        TWINS.badOutside("modes, SPAN in MODE 1", 1, 300, (x, n) -> x.modes(1, n));
        TWINS.badOutside("modes, SPAN in MODE 2", 1, 300, (x, n) -> x.modes(2, n));
        TWINS.bad("modes, both wrong", x -> x.modes(3, 301));
        for (int mode = 0; mode <= 2; mode++) {
            TriggerScopes x = new TriggerScopes();
            due("SPAN 1", x.modes(mode, 1), 1);
            setupIs("SPAN 1", x, 0, 128, 120, 0, 0, 128, 120, 0, mode, 1, 0, 4, 16);
            due("SPAN 300", x.modes(mode, 300), 1);
            setupIs("SPAN 300", x, 0, 128, 120, 0, 0, 128, 120, 0, mode, 300, 0, 4, 16);
            due("done", x.count(8), 2);
        }
    }

    private static void modesAsTheyAre() {
        CHECKS.sentence("modes .. STATE: they are that");
        TWINS.changesNothing("as at first", Twins.NEW, STATE, x -> x.modes(0, 20));
        TWINS.changesNothing("as they are", Twins.BUSY, STATE, x -> x.modes(1, 30));
        TWINS.changesNothing("as they are", Twins.CRAMMED, STATE, x -> x.modes(2, 1));
        due("MODE differs", new TriggerScopes().modes(1, 20), 1);
        due("SPAN differs, below", new TriggerScopes().modes(0, 19), 1);
        due("SPAN differs, above", new TriggerScopes().modes(0, 21), 1);
    }

    private static void holdNumbers() {
        CHECKS.sentence("HOLD (0 .. 300; 0 at first) becomes n: what it was. BAD");
        TWINS.badOutside("holds", 0, 300, TriggerScopes::holds);
        TriggerScopes x = new TriggerScopes();
        due("holds(300)", x.holds(300), 0);
        due("holds(299)", x.holds(299), 300);
        due("holds(1)", x.holds(1), 299);
        due("holds(0)", x.holds(0), 1);
        due("holds(300) again", x.holds(300), 0);
        setupIs("HOLD 300", x, 0, 128, 120, 0, 0, 128, 120, 0, 0, 20, 300, 4, 16);
    }

    private static void holdAsItIs() {
        CHECKS.sentence("holds .. STATE: it is that");
        TWINS.changesNothing("as at first", Twins.NEW, STATE, x -> x.holds(0));
        TWINS.changesNothing("as it is", Twins.BUSY, STATE, x -> x.holds(2));
        TWINS.changesNothing("as it is", Twins.CRAMMED, STATE, x -> x.holds(9));
    }

    private static void recordNumbers() {
        CHECKS.sentence("LONG (1 .. 64; 16 at first), PRE (0 .. 63; 4 at first; may be LONG or more). BAD");
        TWINS.badOutside("records, PRE", 0, 63, (x, n) -> x.records(n, 9));
        TWINS.badOutside("records, PRE with LONG 64", 0, 63, (x, n) -> x.records(n, 64));
        TWINS.badOutside("records, LONG", 1, 64, (x, n) -> x.records(9, n));
        TWINS.badOutside("records, LONG with PRE 0", 1, 64, (x, n) -> x.records(0, n));
        TWINS.bad("records, both wrong", x -> x.records(64, 65));
        int[][] allowed = {{0, 1}, {0, 64}, {63, 1}, {63, 64}, {63, 63}, {16, 16}, {17, 16}, {1, 1}, {2, 1}};
        for (int[] numbers : allowed) {
            TriggerScopes x = new TriggerScopes();
            due("records(" + numbers[0] + ", " + numbers[1] + ")", x.records(numbers[0], numbers[1]), 1);
            setupIs("told", x, 0, 128, 120, 0, 0, 128, 120, 0, 0, 20, 0, numbers[0], numbers[1]);
        }
    }

    private static void recordsAsTheyAre() {
        CHECKS.sentence("records .. STATE: they are that");
        TWINS.changesNothing("as at first", Twins.NEW, STATE, x -> x.records(4, 16));
        TWINS.changesNothing("as they are", Twins.BUSY, STATE, x -> x.records(1, 3));
        TWINS.changesNothing("as they are", Twins.CRAMMED, STATE, x -> x.records(63, 64));
        due("PRE differs", new TriggerScopes().records(5, 16), 1);
        due("LONG differs", new TriggerScopes().records(4, 15), 1);
    }

    private static void undoneOneByOne() {
        CHECKS.sentence("undo: UNDONE: how many more may be. STATE: none");
        TWINS.changesNothing("undo of none", Twins.NEW, STATE, TriggerScopes::undo);
        TriggerScopes x = new TriggerScopes();
        Twins.BUSY.tell(x);
        setupIs("busy", x, 0, 100, 80, 1, 1, 128, 120, 3, 1, 30, 2, 1, 3);
        due("undo condition(0, ..)", x.undo(), 4);
        setupIs("A as it was", x, 0, 128, 120, 0, 1, 128, 120, 3, 1, 30, 2, 1, 3);
        due("undo records", x.undo(), 3);
        setupIs("PRE and LONG as they were", x, 0, 128, 120, 0, 1, 128, 120, 3, 1, 30, 2, 4, 16);
        due("undo holds", x.undo(), 2);
        setupIs("HOLD as it was", x, 0, 128, 120, 0, 1, 128, 120, 3, 1, 30, 0, 4, 16);
        due("undo modes", x.undo(), 1);
        setupIs("MODE and SPAN as they were", x, 0, 128, 120, 0, 1, 128, 120, 3, 0, 20, 0, 4, 16);
        due("undo condition(1, ..)", x.undo(), 0);
        setupIs("B as it was", x, 0, 128, 120, 0, 0, 128, 120, 0, 0, 20, 0, 4, 16);
        due("undo of none", x.undo(), STATE);
        CHECKS.answers("else all stays", new int[] {x.count(0), x.count(6), x.count(7), x.count(8)}, 35, 3, 7, 0);
        TWINS.changesNothing("undo of none more", y -> {
            Twins.CRAMMED.tell(y);
            for (int i = 0; i < 10; i++) {
                y.undo();
            }
        }, STATE, TriggerScopes::undo);
    }

    private static TriggerScopes withHolds(int most) {
        TriggerScopes x = new TriggerScopes();
        for (int n = 1; n <= most; n++) {
            x.holds(n);
        }
        return x;
    }

    private static void undoneTen() {
        CHECKS.sentence("10 are known, older ones are lost");
        for (int done : new int[] {0, 1, 9, 10, 11, 12, 20, 25}) {
            TriggerScopes x = withHolds(done);
            int known = Math.min(done, 10);
            due("known of " + done, x.count(8), known);
            for (int left = known - 1; left >= 0; left--) {
                due("undo, " + done + " done", x.undo(), left);
                due("HOLD", x.count(3), done - known + left);
                due("known", x.count(8), left);
            }
            due("no more of " + done, x.undo(), STATE);
            due("HOLD is that of the oldest known", x.count(3), done - known);
        }
        // Of each sort of doing the oldest is lost behind ten others.
        TriggerScopes x = new TriggerScopes();
        x.condition(0, 1, 2, 3, 4);
        x.condition(1, 2, 3, 4, 5);
        x.modes(1, 7);
        x.records(5, 6);
        for (int n = 1; n <= 10; n++) {
            x.holds(n);
        }
        for (int i = 0; i < 11; i++) {
            x.undo();
        }
        setupIs("lost ones stay done", x, 1, 2, 3, 4, 2, 3, 4, 5, 1, 7, 0, 5, 6);
    }

    private static void undoneAreThoseNotRefused() {
        CHECKS.sentence("the latest condition(), modes(), holds(), records() that was not refused");
        TriggerScopes x = withHolds(10);
        x.holds(10);
        x.holds(301);
        x.holds(-1);
        x.modes(0, 20);
        x.modes(3, 20);
        x.records(4, 16);
        x.records(4, 65);
        x.condition(0, 0, 128, 120, 0);
        x.condition(1, 6, 128, 120, 0);
        due("refused ones push none out", x.count(8), 10);
        Checks.tell(x, "l1 1;");
        x.type('z');
        x.signal();
        x.clear();
        x.sees(0, 0);
        x.forget();
        x.keep(0);
        due("nor do others", x.count(8), 10);
        for (int left = 9; left >= 0; left--) {
            due("undo", x.undo(), left);
            due("HOLD", x.count(3), left);
        }
        due("all are undone", x.undo(), STATE);
        due("THE SIGNAL is not undone", x.count(0), 1);
    }

    private static void undoneAgainAndAnew() {
        CHECKS.sentence("UNDONE: the latest, behind what was undone already");
        TriggerScopes x = withHolds(12);
        x.undo();
        x.undo();
        due("known behind two undone", x.count(8), 8);
        due("doing anew", x.holds(77), 10);
        due("known", x.count(8), 9);
        due("and one more", x.holds(78), 77);
        due("and one that pushes the oldest out", x.holds(79), 78);
        due("known", x.count(8), 10);
        int[] holds = {78, 77, 10, 9, 8, 7, 6, 5, 4, 3};
        for (int i = 0; i < 10; i++) {
            due("undo", x.undo(), 9 - i);
            due("HOLD", x.count(3), holds[i]);
        }
        due("the one pushed out is lost", x.undo(), STATE);
        // To do again what was undone is no STATE: it is not that any more.
        x = withHolds(1);
        x.undo();
        due("again", x.holds(1), 0);
        due("may be undone again", x.undo(), 0);
    }

    private static void seenNumbers() {
        CHECKS.sentence("sees .. BAD (places 0 .. 299; is 0, 1)");
        TWINS.badOutside("sees, place", 0, 299, (x, n) -> x.sees(n, 0));
        TWINS.badOutside("sees, place, is 1", 0, 299, (x, n) -> x.sees(n, 1));
        TWINS.badOutside("sees, is", 0, 1, (x, n) -> x.sees(5, n));
        TWINS.bad("sees, both wrong", x -> x.sees(300, 2));
        TriggerScopes x = new TriggerScopes();
        due("sees(0, 0)", x.sees(0, 0), 1);
        due("sees(299, 0)", x.sees(299, 0), 2);
        due("sees(0, 1)", x.sees(0, 1), 3);
        due("sees(299, 1)", x.sees(299, 1), 4);
        due("SEEN", x.count(6), 4);
    }

    private static void seenSix() {
        CHECKS.sentence("SEEN (never more than 6); FULL: 6");
        TriggerScopes x = new TriggerScopes();
        for (int i = 1; i <= 6; i++) {
            due("sees", x.sees(i, 0), i);
            due("SEEN", x.count(6), i);
        }
        due("the seventh", x.sees(7, 0), FULL);
        due("one that is SEEN already", x.sees(6, 0), FULL);
        due("SEEN", x.count(6), 6);
        due("unseen, as by six", x.unseen(), 63);
        due("forget", x.forget(), 6);
        due("room again", x.sees(7, 1), 1);
        for (int place : new int[] {0, 5, 14, 299}) {
            TWINS.changesNothing("sees(" + place + ", 0)", Twins.CRAMMED, FULL, y -> y.sees(place, 0));
            TWINS.changesNothing("sees(" + place + ", 1)", Twins.CRAMMED, FULL, y -> y.sees(place, 1));
        }
        CHECKS.sentence("Refused, the first of these that is so: BAD, STATE, FULL");
        TWINS.changesNothing("sees(300, 0), 6 SEEN", Twins.CRAMMED, BAD, y -> y.sees(300, 0));
        TWINS.changesNothing("sees(-1, 0), 6 SEEN", Twins.CRAMMED, BAD, y -> y.sees(-1, 0));
        TWINS.changesNothing("sees(0, 2), 6 SEEN", Twins.CRAMMED, BAD, y -> y.sees(0, 2));
        TWINS.changesNothing("sees(0, -1), 6 SEEN", Twins.CRAMMED, BAD, y -> y.sees(0, -1));
    }

    private static void seenTwice() {
        CHECKS.sentence("SEEN: how much there is");
        TriggerScopes x = new TriggerScopes();
        due("sees", x.sees(3, 0), 1);
        due("the same again is one more", x.sees(3, 0), 2);
        due("no KIND is left out", x.unseen(), 63);
        due("the other of the same place", x.sees(3, 1), 3);
        due("no KIND is left", x.unseen(), 0);
    }

    private static void forget() {
        CHECKS.sentence("Nothing is SEEN: how much was");
        TWINS.changesNothing("forget of none", Twins.NEW, 0, TriggerScopes::forget);
        TriggerScopes x = new TriggerScopes();
        Twins.CRAMMED.tell(x);
        int[] setup = Checks.setupOf(x);
        due("forget", x.forget(), 6);
        due("SEEN", x.count(6), 0);
        due("forget again", x.forget(), 0);
        due("unseen", x.unseen(), 63);
        CHECKS.answers("setup stays", Checks.setupOf(x), setup);
        CHECKS.answers("else all stays", new int[] {x.count(0), x.count(7), x.count(8)}, 300, 100, 10);
        for (int i = 1; i <= 6; i++) {
            due("six again", x.sees(i, 0), i);
        }
        due("not seven", x.sees(7, 0), FULL);
    }

    private static void unseenWhereNoSampleIs() {
        CHECKS.sentence("a place that is no SAMPLE: it does not FIRE there");
        // RISING and ENTERED at the last SAMPLE, 3; LEFT and the rest nowhere.
        TriggerScopes x = Checks.scope(Checks.levels(0, 0, 0, 200));
        x.condition(0, 0, 128, 200, 0);
        x.sees(3, 1);
        due("at the last SAMPLE", x.unseen(), 1 + 16);
        x.forget();
        x.sees(4, 1);
        due("just behind the last", x.unseen(), 0);
        x.forget();
        x.sees(4, 0);
        due("just behind the last, not", x.unseen(), 63);
        x.sees(299, 0);
        due("299, not", x.unseen(), 63);
        x.sees(3, 0);
        due("at the last SAMPLE, not", x.unseen(), 63 - 1 - 16);
        x.forget();
        x.sees(299, 1);
        due("299", x.unseen(), 0);
        // A place where the signal ahead had one that fired.
        Checks.tell(x, Checks.levels(0, 200));
        x.forget();
        x.sees(3, 1);
        due("of the signal ahead", x.unseen(), 0);
        x = new TriggerScopes();
        x.sees(0, 0);
        due("no SAMPLES, not", x.unseen(), 63);
        x.sees(0, 1);
        due("no SAMPLES", x.unseen(), 0);
    }

    private static void unseenAsItIsWhenAsked() {
        CHECKS.sentence("its numbers and THE SIGNAL being as they are when it is asked");
        TriggerScopes x = Checks.scope("r255 255;");
        x.sees(9, 1);
        x.condition(0, 4, 10, 10, 0);
        // On this slope a window of one level is ENTERED at the place below the level, and LEFT at it.
        due("ENTERED there", x.unseen() & 48, 16);
        x.condition(0, 2, 9, 9, 0);
        due("LEFT there", x.unseen() & 48, 32);
        x.condition(0, 2, 8, 8, 0);
        due("neither", x.unseen() & 48, 0);
        x.undo();
        due("numbers undone", x.unseen() & 48, 32);
        x.condition(1, 4, 10, 10, 0);
        due("B's numbers are none of it", x.unseen() & 48, 32);
        Checks.tell(x, "l0 9;l9 1;");
        due("another signal", x.unseen() & 48, 16);
        Checks.tell(x, "l0 9;");
        due("a signal that ends ahead of the place", x.unseen(), 0);
        TWINS.onlyAsks("unseen()", TriggerScopes::unseen);
    }

    private static void unseenEachKind() {
        CHECKS.sentence("UNSEEN: KINDS (bits 0 to 5) by which all that was SEEN is so");
        // p 50, q 50, w 60: RISING 1, 3, 7; FALLING 2, 4, 8; RUNT never (q is p); WIDTH never (none of 50 SAMPLES);
        // ENTERED 3; LEFT 4.
        String text = Checks.levels(0, 60, 0, 50, 0, 0, 0, 60, 0);
        int[][] fires = {{1, 3, 7}, {2, 4, 8}, {}, {}, {3}, {4}};
        unseenIs(text, 50, 50, 60, fires);
        // p 50, q 2, w 3: RISING as above; FALLING likewise; RUNT never; WIDTH where a PULSE has 2 or 3 SAMPLES.
        text = Checks.levels(0, 60, 60, 0, 50, 50, 50, 0, 60, 0);
        int[][] pulses = {{1, 4, 8}, {3, 7, 9}, {}, {3, 7}, {}, {}};
        // The window 2 .. 50 has the three 50s: ENTERED at 4, LEFT at 7.
        pulses[4] = new int[] {4};
        pulses[5] = new int[] {7};
        unseenIs(text, 50, 2, 3, pulses);
    }

    /** Asks of each place alone, SEEN as 0 and as 1, which KINDS are left. */
    private static void unseenIs(String text, int p, int q, int w, int[][] fires) {
        for (int place = 0; place < 12; place++) {
            int bits = 0;
            for (int kind = 0; kind <= 5; kind++) {
                for (int fired : fires[kind]) {
                    bits |= fired == place ? 1 << kind : 0;
                }
            }
            for (int kind = 0; kind <= 5; kind++) {
                TriggerScopes x = Checks.scope(text);
                x.condition(0, kind, p, q, w);
                x.sees(place, 1);
                due("at " + place + ", A being of KIND " + kind, x.unseen(), bits);
                x.forget();
                x.sees(place, 0);
                due("not at " + place + ", A being of KIND " + kind, x.unseen(), 63 - bits);
            }
        }
    }

    private static void imageNumbers() {
        CHECKS.sentence("IMAGES 0, 1. BAD");
        TWINS.badOutside("keep", 0, 1, TriggerScopes::keep);
        TWINS.badOutside("back", 0, 1, TriggerScopes::back);
        for (int mode = 0; mode <= 2; mode++) {
            for (int image = 0; image <= 1; image++) {
                TriggerScopes x = new TriggerScopes();
                x.modes(mode, 33);
                due("keep answers MODE", x.keep(image), mode);
                x.modes((mode + 1) % 3, 34);
                due("back answers MODE as it becomes", x.back(image), mode);
                due("SPAN", x.count(2), 33);
            }
        }
    }

    private static void imagesNotKept() {
        CHECKS.sentence("back .. STATE: none was kept");
        TWINS.changesNothing("back(0) of a new object", Twins.NEW, STATE, x -> x.back(0));
        TWINS.changesNothing("back(1) of a new object", Twins.NEW, STATE, x -> x.back(1));
        for (int image = 0; image <= 1; image++) {
            int other = 1 - image;
            TWINS.changesNothing("back(" + other + "), the other being kept", x -> {
                x.holds(4);
                x.keep(1 - other);
                x.modes(2, 5);
                x.sees(3, 1);
            }, STATE, x -> x.back(other));
        }
        CHECKS.sentence("Refused, the first of these that is so: BAD, STATE, FULL");
        TWINS.changesNothing("back(2), none kept", Twins.NEW, BAD, x -> x.back(2));
        TWINS.changesNothing("back(-1), none kept", Twins.NEW, BAD, x -> x.back(-1));
    }

    private static void imagesKeep() {
        CHECKS.sentence("IMAGES 0, 1 keep CONDITIONS, MODE, SPAN, HOLD, PRE, LONG");
        TriggerScopes x = new TriggerScopes();
        due("keep at first", x.keep(1), 0);
        x.condition(0, 1, 2, 3, 4);
        x.condition(1, 2, 3, 4, 5);
        x.modes(1, 9);
        x.holds(8);
        x.records(7, 6);
        due("keep all", x.keep(0), 1);
        x.condition(0, 5, 6, 7, 8);
        x.condition(1, 4, 5, 6, 7);
        x.modes(2, 10);
        x.holds(11);
        x.records(12, 13);
        setupIs("kept ones do not change what is", x, 5, 6, 7, 8, 4, 5, 6, 7, 2, 10, 11, 12, 13);
        due("back(0)", x.back(0), 1);
        setupIs("as image 0 has it", x, 1, 2, 3, 4, 2, 3, 4, 5, 1, 9, 8, 7, 6);
        due("back(1)", x.back(1), 0);
        setupIs("as image 1 has it", x, 0, 128, 120, 0, 0, 128, 120, 0, 0, 20, 0, 4, 16);
        due("back(0) again", x.back(0), 1);
        x.holds(99);
        x.condition(0, 0, 0, 0, 0);
        due("what is done behind back(0) is not in the image", x.back(0), 1);
        setupIs("as image 0 has it still", x, 1, 2, 3, 4, 2, 3, 4, 5, 1, 9, 8, 7, 6);
        x.holds(100);
        x.keep(0);
        x.undo();
        due("undo is not in the image", x.back(0), 1);
        due("HOLD as kept last", x.count(3), 100);
    }

    private static void backLeavesTheRest() {
        CHECKS.sentence("nothing else (nothing can be UNDONE behind back())");
        TriggerScopes x = new TriggerScopes();
        Twins.CRAMMED.tell(x);
        due("keep changes not what may be UNDONE", x.count(8), 10);
        due("back(1)", x.back(1), 0);
        CHECKS.answers("counts", new int[] {x.count(0), x.count(6), x.count(7), x.count(8)}, 300, 6, 100, 0);
        due("sample(299)", x.sample(299), 90);
        due("undo", x.undo(), STATE);
        due("doing behind back()", x.holds(5), 0);
        due("may be UNDONE", x.count(8), 1);
        due("undo that", x.undo(), 0);
        due("no more", x.undo(), STATE);
        setupIs("as the image has it", x, 0, 128, 120, 0, 0, 128, 120, 0, 0, 20, 0, 4, 16);
        x = withHolds(3);
        x.keep(0);
        due("back to what is", x.back(0), 0);
        due("nothing can be UNDONE behind that, too", x.undo(), STATE);
        due("HOLD", x.count(3), 3);
        x = withHolds(3);
        x.back(0);
        due("a refused back() leaves what may be UNDONE", x.undo(), 2);
    }

    private static void toldNumbers() {
        CHECKS.sentence("Of a CONDITION (0, 1): 0 its KIND, 1 p, 2 q, 3 w. BAD");
        TWINS.badOutside("told, c", 0, 1, (x, n) -> x.told(n, 0));
        TWINS.badOutside("told, c, w", 0, 1, (x, n) -> x.told(n, 3));
        TWINS.badOutside("told, what of A", 0, 3, (x, n) -> x.told(0, n));
        TWINS.badOutside("told, what of B", 0, 3, (x, n) -> x.told(1, n));
        TWINS.bad("told, both wrong", x -> x.told(2, 4));
        for (int what = 0; what <= 3; what++) {
            int each = what;
            TWINS.onlyAsks("told(0, " + what + ")", x -> x.told(0, each));
            TWINS.onlyAsks("told(1, " + what + ")", x -> x.told(1, each));
        }
    }

    private static void countNumbers() {
        CHECKS.sentence("count: 0 SAMPLES .. 8 how many may be UNDONE. BAD");
        TWINS.badOutside("count", 0, 8, TriggerScopes::count);
        for (int what = 0; what <= 8; what++) {
            int each = what;
            TWINS.onlyAsks("count(" + what + ")", x -> x.count(each));
        }
    }

    private static void countLimits() {
        CHECKS.sentence("0 SAMPLES, 1 MODE, 2 SPAN, 3 HOLD, 4 PRE, 5 LONG, 6 SEEN, 7 letters, 8 how many may be UNDONE");
        TriggerScopes x = new TriggerScopes();
        Twins.CRAMMED.tell(x);
        int[] counts = new int[9];
        for (int what = 0; what <= 8; what++) {
            counts[what] = x.count(what);
        }
        CHECKS.answers("crammed", counts, 300, 2, 1, 9, 63, 64, 6, 100, 10);
        x = new TriggerScopes();
        for (int what = 0; what <= 8; what++) {
            counts[what] = x.count(what);
        }
        CHECKS.answers("new", counts, 0, 0, 20, 0, 4, 16, 0, 0, 0);
    }
}
