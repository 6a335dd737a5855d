/**
 * The document's sentences that name a boundary case of where CONDITIONS FIRE, of TRIGGERS, RECORDS and MEASURES:
 * promises 11 to 17 and their terms.
 */
public final class AskedBoundsTest {
    private static final int BAD = TriggerScopes.BAD, NONE = TriggerScopes.NONE;
    private static final int MIN = Integer.MIN_VALUE, MAX = Integer.MAX_VALUE;
    private static final Checks CHECKS = new Checks();
    private static final Twins TWINS = new Twins(CHECKS);

    public static void main(String[] args) {
        rising();
        falling();
        edgesBehindTheLastFired();
        runt();
        runtLevels();
        width();
        widthLimits();
        entered();
        left();
        firesNumbers();
        alone();
        behind();
        unless();
        hold();
        holdFromTriggers();
        triggerNumbers();
        recordsWithinTheSamples();
        recordsOfPreLongOrMore();
        recordsAtTheLimits();
        recordNumbers();
        mean();
        meanNumbers();
        joined();
        joinedNumbers();
        gates();
        gateNumbers();
        middle();
        rises();
        periodAndDuty();
        alias();
        aliasAllElseAsItIs();
        aliasNumbers();
        CHECKS.end();
    }

    private static void due(String call, long got, long want) {
        CHECKS.due(call, got, want);
    }

    private static void triggersAre(String when, TriggerScopes x, int... want) {
        CHECKS.answers(when, Checks.triggersOf(x), want);
        due(when + ": behind the last", x.trigger(want.length), NONE);
    }

    /** Where a CONDITION FIRES on SAMPLES of these values. */
    private static void firesAt(int kind, int p, int q, int w, int[] values, int... want) {
        firesIn(kind, p, q, w, Checks.levels(values), want);
    }

    private static void firesIn(int kind, int p, int q, int w, String text, int... want) {
        String what = "KIND " + kind + " of " + p + ", " + q + ", " + w + " in '" + text + "'";
        CHECKS.answers(what, Checks.firesOf(kind, p, q, w, text), want);
    }

    private static int[] of(int... values) {
        return values;
    }

    private static void rising() {
        CHECKS.sentence("RISING: v is p or more, and .. ahead of k there is a SAMPLE of q or less (from SAMPLE 0 on)");
        firesAt(0, 20, 10, 0, of(10, 20), 1);
        firesAt(0, 20, 10, 0, of(10, 21), 1);
        firesAt(0, 20, 10, 0, of(10, 19));
        firesAt(0, 20, 10, 0, of(10, 19, 20), 2);
        firesAt(0, 20, 10, 0, of(9, 20), 1);
        firesAt(0, 20, 10, 0, of(11, 20));
        firesAt(0, 20, 10, 0, of(11, 10, 20), 2);
        firesAt(0, 20, 10, 0, of(20));
        firesAt(0, 20, 10, 0, of(20, 20, 20));
        firesAt(0, 20, 10, 0, of(20, 10));
        firesAt(0, 255, 0, 0, of(0, 254, 255), 2);
        firesAt(0, 255, 0, 0, of(1, 255, 0, 255), 3);
        firesIn(0, 128, 120, 0, "l0 299;l200 1;", 299);
        firesIn(0, 128, 120, 0, "l0 1;l200 299;", 1);
        firesIn(0, 128, 120, 0, "");
        firesIn(0, 0, 255, 0, "l7 1;");
    }

    private static void falling() {
        CHECKS.sentence("FALLING: v is q or less, and likewise there is one of p or more");
        firesAt(1, 20, 10, 0, of(20, 10), 1);
        firesAt(1, 20, 10, 0, of(20, 9), 1);
        firesAt(1, 20, 10, 0, of(20, 11));
        firesAt(1, 20, 10, 0, of(20, 11, 10), 2);
        firesAt(1, 20, 10, 0, of(21, 10), 1);
        firesAt(1, 20, 10, 0, of(19, 10));
        firesAt(1, 20, 10, 0, of(19, 20, 10), 2);
        firesAt(1, 20, 10, 0, of(10));
        firesAt(1, 20, 10, 0, of(10, 10, 10));
        firesAt(1, 20, 10, 0, of(10, 20));
        firesAt(1, 255, 0, 0, of(255, 1, 0), 2);
        firesAt(1, 255, 0, 0, of(254, 0, 255, 0), 3);
        firesIn(1, 128, 120, 0, "l200 299;l0 1;", 299);
        firesIn(1, 128, 120, 0, "l200 1;l0 299;", 1);
        firesIn(1, 128, 120, 0, "");
        firesIn(1, 0, 255, 0, "l7 1;");
    }

    private static void edgesBehindTheLastFired() {
        CHECKS.sentence("behind the SAMPLE at which it FIRED last (from SAMPLE 0 on, if there is none) and ahead of k");
        firesAt(0, 20, 10, 0, of(9, 20, 20, 10, 20), 1, 4);
        firesAt(0, 20, 10, 0, of(10, 20, 11, 20), 1);
        firesAt(0, 20, 10, 0, of(0, 0, 20, 0, 0, 20), 2, 5);
        firesAt(1, 20, 10, 0, of(21, 10, 10, 20, 10), 1, 4);
        firesAt(1, 20, 10, 0, of(20, 10, 19, 10), 1);
        // Where p is not above q a SAMPLE may be both; the one that FIRED is not behind itself.
        firesIn(0, 0, 255, 0, "l7 6;", 1, 3, 5);
        firesIn(1, 0, 255, 0, "l7 6;", 1, 3, 5);
        firesIn(0, 10, 10, 0, "l10 4;", 1, 3);
        firesIn(1, 10, 10, 0, "l10 4;", 1, 3);
        firesIn(0, 10, 10, 0, "l11 4;");
        firesIn(1, 10, 10, 0, "l9 4;");
        firesAt(0, 10, 20, 0, of(15, 15, 25, 25, 15, 15), 1, 5);
        firesAt(1, 10, 20, 0, of(15, 15, 25, 25, 15, 15), 1, 4);
    }

    private static void runt() {
        CHECKS.sentence("A PULSE at p .. behind a SAMPLE below p and ahead of one; RUNT: k is just behind a PULSE at p");
        firesAt(2, 50, 100, 0, of(49, 50, 49), 2);
        firesAt(2, 50, 100, 0, of(49, 49, 49));
        firesAt(2, 50, 100, 0, of(50, 49));
        firesAt(2, 50, 100, 0, of(50, 50, 49, 49));
        firesAt(2, 50, 100, 0, of(49, 50));
        firesAt(2, 50, 100, 0, of(49, 50, 50));
        firesAt(2, 50, 100, 0, of(50, 49, 50, 49), 3);
        firesAt(2, 50, 100, 0, of(0, 50, 0, 50, 0), 2, 4);
        firesAt(2, 50, 100, 0, of(50, 50, 50));
        firesAt(2, 50, 100, 0, of(0, 60, 50, 99, 0, 0), 4);
        firesIn(2, 1, 10, 0, "l0 1;l9 298;l0 1;", 299);
        firesIn(2, 1, 10, 0, "l0 1;l9 299;");
        firesIn(2, 1, 10, 0, "l9 299;l0 1;");
        firesIn(2, 1, 10, 0, "");
    }

    private static void runtLevels() {
        CHECKS.sentence("RUNT: .. a PULSE at p, which has none of q or more");
        firesAt(2, 50, 100, 0, of(0, 99, 0), 2);
        firesAt(2, 50, 100, 0, of(0, 100, 0));
        firesAt(2, 50, 100, 0, of(0, 50, 100, 50, 0));
        firesAt(2, 50, 100, 0, of(0, 100, 50, 50, 0));
        firesAt(2, 50, 100, 0, of(0, 50, 50, 100, 0));
        firesAt(2, 50, 100, 0, of(0, 100, 0, 99, 0), 4);
        firesAt(2, 50, 51, 0, of(0, 50, 0, 51, 0), 2);
        firesAt(2, 50, 50, 0, of(0, 50, 0, 51, 0));
        firesAt(2, 50, 0, 0, of(0, 50, 0));
        firesAt(2, 0, 255, 0, of(0, 50, 0));
        firesAt(2, 1, 255, 0, of(0, 254, 0, 255, 0), 2);
        firesAt(2, 255, 255, 0, of(0, 255, 0));
        // w is none of it.
        firesAt(2, 50, 100, 300, of(0, 99, 0), 2);
    }

    private static void width() {
        CHECKS.sentence("WIDTH: k is just behind a PULSE at p, which has q or more and w or fewer SAMPLES");
        int[] most = {1, 2, 3, 4, 5};
        for (int width : most) {
            String text = "l0 1;l50 " + width + ";l0 1;";
            firesIn(3, 50, 2, 4, text, width >= 2 && width <= 4 ? of(width + 1) : of());
            firesIn(3, 50, 3, 3, text, width == 3 ? of(4) : of());
            firesIn(3, 50, 0, 1, text, width == 1 ? of(2) : of());
            firesIn(3, 50, 5, 300, text, width == 5 ? of(6) : of());
            firesIn(3, 50, 0, 0, text);
            firesIn(3, 50, 4, 2, text);
            firesIn(3, 50, 1, 0, text);
            firesIn(3, 51, 0, 300, text);
        }
        firesAt(3, 50, 1, 1, of(0, 50, 49, 50, 0), 2, 4);
        firesAt(3, 50, 3, 3, of(0, 50, 50, 50, 49, 255, 50, 99, 0), 4, 8);
        firesAt(3, 50, 0, 255, of(50, 0, 50));
        firesAt(3, 0, 0, 255, of(0, 50, 0));
    }

    private static void widthLimits() {
        CHECKS.sentence("p, q 0 .. 255, w 0 .. 300 as WIDTH uses them");
        firesIn(3, 50, 255, 255, "l0 1;l50 254;l0 1;");
        firesIn(3, 50, 255, 255, "l0 1;l50 255;l0 1;", 256);
        firesIn(3, 50, 255, 255, "l0 1;l50 256;l0 1;");
        firesIn(3, 50, 0, 297, "l0 1;l50 298;l0 1;");
        firesIn(3, 50, 0, 298, "l0 1;l50 298;l0 1;", 299);
        firesIn(3, 50, 255, 300, "l0 1;l50 298;l0 1;", 299);
        firesIn(3, 255, 0, 300, "l254 1;l255 298;l254 1;", 299);
    }

    private static void entered() {
        CHECKS.sentence("ENTERED: v is in the window p .. q (both in it), the SAMPLE ahead of k is not (0 or fewer ahead: never)");
        for (int[] window : new int[][] {{10, 20}, {20, 10}}) {
            firesAt(4, window[0], window[1], 0, of(9, 10), 1);
            firesAt(4, window[0], window[1], 0, of(21, 20), 1);
            firesAt(4, window[0], window[1], 0, of(9, 20), 1);
            firesAt(4, window[0], window[1], 0, of(21, 10), 1);
            firesAt(4, window[0], window[1], 0, of(8, 9, 21, 22));
            firesAt(4, window[0], window[1], 0, of(15));
            firesAt(4, window[0], window[1], 0, of(10, 20, 10));
            firesAt(4, window[0], window[1], 0, of(15, 9, 15, 21, 15), 2, 4);
            firesAt(4, window[0], window[1], 0, of(9, 10, 20, 21), 1);
        }
    }

    private static void left() {
        CHECKS.sentence("LEFT: v is not in it, the SAMPLE ahead of k is");
        for (int[] window : new int[][] {{10, 20}, {20, 10}}) {
            firesAt(5, window[0], window[1], 0, of(10, 9), 1);
            firesAt(5, window[0], window[1], 0, of(20, 21), 1);
            firesAt(5, window[0], window[1], 0, of(20, 9), 1);
            firesAt(5, window[0], window[1], 0, of(10, 21), 1);
            firesAt(5, window[0], window[1], 0, of(10, 20, 10));
            firesAt(5, window[0], window[1], 0, of(9));
            firesAt(5, window[0], window[1], 0, of(9, 21, 9));
            firesAt(5, window[0], window[1], 0, of(15, 9, 15, 21, 15), 1, 3);
            firesAt(5, window[0], window[1], 0, of(9, 10, 20, 21), 3);
        }
        CHECKS.sentence("the window p .. q (from the lesser to the greater of both, both in it)");
        firesAt(4, 15, 15, 0, of(14, 15, 16, 15), 1, 3);
        firesAt(5, 15, 15, 0, of(14, 15, 16, 15), 2);
        firesAt(4, 0, 255, 0, of(0, 255, 0));
        firesAt(5, 0, 255, 0, of(0, 255, 0));
        firesAt(4, 0, 0, 0, of(1, 0), 1);
        firesAt(5, 255, 255, 0, of(255, 254), 1);
        firesIn(4, 255, 200, 0, "l0 299;l255 1;", 299);
        firesIn(5, 255, 200, 0, "l255 299;l0 1;", 299);
        firesIn(4, 255, 200, 0, "");
        firesIn(5, 255, 200, 0, "");
    }

    private static void firesNumbers() {
        CHECKS.sentence("The k-th place (0 on) where a CONDITION FIRES; NONE: there are not so many. BAD (k below 0)");
        TWINS.badOutside("fires, c", 0, 1, (x, n) -> x.fires(n, 0));
        for (int c = 0; c <= 1; c++) {
            int each = c;
            TWINS.bad("fires(" + c + ", -1)", x -> x.fires(each, -1));
            TWINS.bad("fires(" + c + ", least)", x -> x.fires(each, MIN));
            TWINS.onlyAsks("fires(" + c + ", 0)", x -> x.fires(each, 0));
            TWINS.onlyAsks("fires(" + c + ", most)", x -> x.fires(each, MAX));
        }
        TWINS.bad("fires(2, -1)", x -> x.fires(2, -1));
        TriggerScopes x = new TriggerScopes();
        due("no SAMPLES", x.fires(0, 0), NONE);
        // As many as there can be: each SAMPLE behind one that is both high and low, and did not fire.
        Checks.tell(x, "l7 300;");
        x.condition(1, 0, 0, 255, 0);
        due("the first", x.fires(1, 0), 1);
        due("the last but one", x.fires(1, 148), 297);
        due("the last", x.fires(1, 149), 299);
        due("behind the last", x.fires(1, 150), NONE);
        due("300", x.fires(1, 300), NONE);
        due("A fires not", x.fires(0, 0), NONE);
    }

    /** A FIRES where 50 comes, B where 100 comes. */
    private static TriggerScopes fiftyAndHundred(String text) {
        TriggerScopes x = Checks.scope(text);
        x.condition(0, 4, 50, 50, 0);
        x.condition(1, 4, 100, 100, 0);
        return x;
    }

    private static void alone() {
        CHECKS.sentence("MODE 0 ALONE: TRIGGERS come where A FIRES");
        TriggerScopes x = fiftyAndHundred("l0 10;l50 1;l0 4;l100 1;l0 3;l50 1;");
        triggersAre("SPAN 20", x, 10, 19);
        x.modes(0, 1);
        triggersAre("SPAN 1", x, 10, 19);
        x.modes(0, 300);
        triggersAre("SPAN 300", x, 10, 19);
        x.condition(0, 4, 51, 51, 0);
        triggersAre("A never", x);
    }

    private static void behind() {
        CHECKS.sentence("MODE 1 BEHIND: where B FIRES at t, and A FIRES at some place from t less SPAN to t less 1");
        TriggerScopes x = fiftyAndHundred("l0 10;l50 1;l0 4;l100 1;l0 4;l100 1;l50 1;");
        int[][] wants = {{}, {15}, {15}, {15}, {15}, {15}, {15, 20}, {15, 20}};
        for (int span = 4; span <= 11; span++) {
            x.modes(1, span);
            triggersAre("A at 10, B at 15 and 20, SPAN " + span, x, wants[span - 4]);
        }
        x.modes(1, 300);
        triggersAre("SPAN 300", x, 15, 20);
        x = fiftyAndHundred("l0 5;l50 1;l100 1;");
        x.modes(1, 1);
        triggersAre("t less 1, SPAN 1", x, 6);
        x = fiftyAndHundred("l0 5;l50 1;l0 1;l100 1;");
        x.modes(1, 1);
        triggersAre("t less 2, SPAN 1", x);
        x.modes(1, 2);
        triggersAre("t less 2, SPAN 2", x, 7);
        x = fiftyAndHundred("l0 5;l100 1;l0 5;");
        x.condition(0, 4, 50, 100, 0);
        x.modes(1, 300);
        triggersAre("A at t itself", x);
        x = fiftyAndHundred("l0 5;l100 1;l0 5;l50 1;");
        x.modes(1, 300);
        triggersAre("A behind B", x);
        x = fiftyAndHundred("l0 1;l50 1;l0 297;l100 1;");
        x.modes(1, 297);
        triggersAre("as far apart as they can be, SPAN 297", x);
        x.modes(1, 298);
        triggersAre("as far apart as they can be, SPAN 298", x, 299);
        x.modes(1, 300);
        triggersAre("as far apart as they can be, SPAN 300", x, 299);
    }

    private static void unless() {
        CHECKS.sentence("MODE 2 UNLESS: where A FIRES at t, and B at none from t and 1 to t and SPAN");
        TriggerScopes x = fiftyAndHundred("l0 5;l100 1;l0 4;l50 1;l0 4;l100 1;l0 4;l50 1;");
        int[][] wants = {{10, 20}, {20}, {20}};
        for (int span = 4; span <= 6; span++) {
            x.modes(2, span);
            triggersAre("A at 10 and 20, B at 5 and 15, SPAN " + span, x, wants[span - 4]);
        }
        x.modes(2, 300);
        triggersAre("A at the last SAMPLE, SPAN 300", x, 20);
        x.modes(2, 1);
        triggersAre("SPAN 1", x, 10, 20);
        x = fiftyAndHundred("l0 5;l50 1;l100 1;");
        x.modes(2, 1);
        triggersAre("B at t and 1, SPAN 1", x);
        x = fiftyAndHundred("l0 5;l50 1;l0 1;l100 1;");
        x.modes(2, 1);
        triggersAre("B at t and 2, SPAN 1", x, 5);
        x.modes(2, 2);
        triggersAre("B at t and 2, SPAN 2", x);
        x = fiftyAndHundred("l0 5;l100 1;l0 5;");
        x.condition(0, 4, 50, 100, 0);
        x.modes(2, 300);
        triggersAre("B at t itself", x, 5);
        x = fiftyAndHundred("l0 1;l50 1;l0 297;l100 1;");
        x.modes(2, 297);
        triggersAre("as far apart as they can be, SPAN 297", x, 1);
        x.modes(2, 298);
        triggersAre("as far apart as they can be, SPAN 298", x);
    }

    private static void hold() {
        CHECKS.sentence("each is a TRIGGER that lies more than HOLD behind the TRIGGER ahead of it (the first one in any case)");
        TriggerScopes x = fiftyAndHundred("l0 10;l50 1;l0 4;l50 1;");
        x.holds(4);
        triggersAre("5 apart, HOLD 4", x, 10, 15);
        x.holds(5);
        triggersAre("5 apart, HOLD 5", x, 10);
        x.holds(300);
        triggersAre("the first one in any case", x, 10);
        x = fiftyAndHundred("l0 1;l50 1;x3;");
        triggersAre("HOLD 0", x, 1, 3, 5, 7);
        x.holds(1);
        triggersAre("2 apart, HOLD 1", x, 1, 3, 5, 7);
        x.holds(2);
        triggersAre("2 apart, HOLD 2", x, 1, 5);
        x.holds(3);
        triggersAre("2 apart, HOLD 3", x, 1, 5);
        x.holds(4);
        triggersAre("2 apart, HOLD 4", x, 1, 7);
        x.holds(6);
        triggersAre("2 apart, HOLD 6", x, 1);
        x = fiftyAndHundred("l0 1;l50 1;l0 297;l50 1;");
        x.holds(297);
        triggersAre("as far apart as they can be, HOLD 297", x, 1, 299);
        x.holds(298);
        triggersAre("as far apart as they can be, HOLD 298", x, 1);
        x.holds(300);
        triggersAre("as far apart as they can be, HOLD 300", x, 1);
    }

    private static void holdFromTriggers() {
        CHECKS.sentence("of places where TRIGGERS come, from the first one on .. behind the TRIGGER ahead of it");
        TriggerScopes x = fiftyAndHundred("l0 10;l50 1;l0 4;l50 1;l0 4;l50 1;l0 1;l50 1;");
        x.holds(5);
        triggersAre("10, 15, 20, 22: 15 is held, 20 not by 15, 22 is", x, 10, 20);
        x.holds(6);
        triggersAre("HOLD 6", x, 10, 20);
        x.holds(9);
        triggersAre("HOLD 9", x, 10, 20);
        x.holds(10);
        triggersAre("HOLD 10", x, 10, 22);
        x.holds(12);
        triggersAre("HOLD 12", x, 10);
        // Where no TRIGGER comes nothing is held: A at 5 is left out by B at 6.
        x = fiftyAndHundred("l0 5;l50 1;l100 1;l50 1;");
        x.holds(300);
        x.modes(2, 1);
        triggersAre("UNLESS, then HOLD", x, 7);
        x = fiftyAndHundred("l0 5;l100 1;l50 1;l100 1;l0 1;l100 1;");
        x.holds(1);
        x.modes(1, 300);
        triggersAre("BEHIND, HOLD 1", x, 7, 9);
        x.holds(2);
        triggersAre("BEHIND, HOLD 2", x, 7);
    }

    private static void triggerNumbers() {
        CHECKS.sentence("How many TRIGGERS there are (k = -1), the k-th (0 on); NONE. BAD (k below -1)");
        for (int k : new int[] {-2, -3, MIN}) {
            TWINS.bad("trigger(" + k + ")", x -> x.trigger(k));
        }
        for (int k : new int[] {-1, 0, 1, 299, 300, MAX}) {
            TWINS.onlyAsks("trigger(" + k + ")", x -> x.trigger(k));
        }
        TriggerScopes x = Checks.scope("l7 300;");
        x.condition(0, 0, 0, 255, 0);
        due("how many", x.trigger(-1), 150);
        due("the first", x.trigger(0), 1);
        due("the last", x.trigger(149), 299);
        due("behind the last", x.trigger(150), NONE);
        due("most", x.trigger(MAX), NONE);
    }

    private static void recordsAre(String when, TriggerScopes x, int... triggers) {
        due(when + ": how many", x.record(-1, 0), triggers.length);
        for (int k = 0; k < triggers.length; k++) {
            due(when + ": the TRIGGER of " + k, x.record(k, -1), triggers[k]);
        }
        due(when + ": behind the last", x.record(triggers.length, -1), NONE);
        due(when + ": behind the last, place 0", x.record(triggers.length, 0), NONE);
    }

    private static void recordsWithinTheSamples() {
        CHECKS.sentence("place j being SAMPLE t less PRE and j, if all these are SAMPLES; else none");
        // SAMPLES 0 .. 9 are 1 .. 10, 10 is 50, 11 .. 18 are 11 .. 18, 19 is 50.
        TriggerScopes x = fiftyAndHundred("r10 10;l50 1;l11 1;r18 7;l50 1;");
        due("SAMPLES", x.count(0), 20);
        triggersAre("TRIGGERS", x, 10, 19);
        x.records(10, 10);
        recordsAre("from SAMPLE 0 on", x, 10, 19);
        due("its place 0", x.record(0, 0), 1);
        due("its place 9", x.record(0, 9), 10);
        x.records(11, 10);
        recordsAre("one ahead of SAMPLE 0: RECORD 0 is of the first TRIGGER that gives one", x, 19);
        due("its place 0", x.record(0, 0), 9);
        x.records(0, 10);
        recordsAre("to the last SAMPLE", x, 10);
        due("its place 0", x.record(0, 0), 50);
        due("its place 9", x.record(0, 9), 50);
        x.records(0, 11);
        recordsAre("one behind the last SAMPLE", x);
        x.records(10, 20);
        recordsAre("all SAMPLES", x, 10);
        due("the first SAMPLE", x.record(0, 0), 1);
        due("the last SAMPLE", x.record(0, 19), 50);
        x.records(10, 21);
        recordsAre("one more than all", x);
        x.records(0, 1);
        recordsAre("the TRIGGER alone", x, 10, 19);
        due("at the last SAMPLE", x.record(1, 0), 50);
        x.records(0, 2);
        recordsAre("the last gives none", x, 10);
        x.records(1, 2);
        recordsAre("the last gives one", x, 10, 19);
    }

    private static void recordsOfPreLongOrMore() {
        CHECKS.sentence("PRE may be LONG or more");
        TriggerScopes x = fiftyAndHundred("r10 10;l50 1;l11 1;r18 7;l50 1;");
        x.records(5, 5);
        recordsAre("PRE is LONG", x, 10, 19);
        CHECKS.answers("just ahead of the TRIGGER", new int[] {x.record(0, 0), x.record(0, 4), x.record(1, 4)}, 6, 10, 18);
        x.records(6, 5);
        recordsAre("PRE is more than LONG", x, 10, 19);
        CHECKS.answers("further ahead", new int[] {x.record(0, 0), x.record(0, 4), x.record(1, 4)}, 5, 9, 17);
        x.records(10, 1);
        recordsAre("SAMPLE 0 alone", x, 10, 19);
        due("SAMPLE 0", x.record(0, 0), 1);
        x.records(11, 1);
        recordsAre("ahead of SAMPLE 0", x, 19);
        x.records(19, 1);
        recordsAre("SAMPLE 0 of the last", x, 19);
        due("SAMPLE 0", x.record(0, 0), 1);
        x.records(20, 1);
        recordsAre("none", x);
    }

    private static void recordsAtTheLimits() {
        CHECKS.sentence("LONG places (1 .. 64), PRE 0 .. 63");
        TriggerScopes x = fiftyAndHundred("l0 63;l50 1;");
        x.records(63, 64);
        recordsAre("the longest, all 64 SAMPLES", x, 63);
        due("place 63", x.record(0, 63), 50);
        due("place 64", x.record(0, 64), BAD);
        x.records(63, 1);
        recordsAre("63 ahead", x, 63);
        Checks.tell(x, "l0 62;l50 1;l0 9;");
        recordsAre("63 ahead of 62", x);
        Checks.tell(x, "l1 236;l2 63;l50 1;");
        x.records(63, 64);
        recordsAre("at the end of 300", x, 299);
        due("place 0", x.record(0, 0), 2);
        due("place 63", x.record(0, 63), 50);
        x.records(62, 64);
        recordsAre("one behind the end of 300", x);
        Checks.tell(x, "l1 1;l50 1;x25;");
        x.records(0, 64);
        due("of 26 TRIGGERS none has 64 places", x.record(-1, 0), 0);
        x.records(0, 51);
        recordsAre("51 places", x, 1);
        x.records(0, 52);
        recordsAre("52 places", x);
    }

    private static void recordNumbers() {
        CHECKS.sentence("record .. BAD (k below -1; of k 0 on: j below -1, not below LONG)");
        for (int k : new int[] {-2, -3, MIN}) {
            TWINS.bad("record(" + k + ", 0)", x -> x.record(k, 0));
            TWINS.bad("record(" + k + ", -1)", x -> x.record(k, -1));
            TWINS.bad("record(" + k + ", -2)", x -> x.record(k, -2));
        }
        for (int k : new int[] {0, 1, MAX}) {
            TWINS.badOutside("record(" + k + ", ..)", -1, 63, (x, n) -> x.record(k, n));
            TWINS.onlyAsks("record(" + k + ", 0)", x -> x.record(k, 0));
            TWINS.onlyAsks("record(" + k + ", -1)", x -> x.record(k, -1));
        }
        for (int j : new int[] {MIN, -2, -1, 0, 63, 64, MAX}) {
            TWINS.onlyAsks("record(-1, " + j + ")", x -> x.record(-1, j));
            TriggerScopes x = Checks.scope("l0 9;l200 1;l0 20;");
            due("how many, j " + j, x.record(-1, j), 1);
        }
        TriggerScopes x = Checks.scope("l0 9;l200 1;l0 20;");
        for (int length : new int[] {1, 2, 15, 16, 17}) {
            x.records(5, length);
            due("last place of " + length, x.record(0, length - 1), length == 5 ? 200 : 0);
            due("behind it", x.record(0, length), BAD);
            due("behind it, no such RECORD", x.record(1, length), BAD);
            due("last place, no such RECORD", x.record(1, length - 1), NONE);
            due("j -1, no such RECORD", x.record(1, -1), NONE);
            due("j -2, no such RECORD", x.record(1, -2), BAD);
        }
    }

    /** RECORDS of places 0, 1: a TRIGGER at each level above 120, and the SAMPLE behind it. */
    private static TriggerScopes recordsOf(int... values) {
        TriggerScopes x = Checks.scope(Checks.levels(values));
        x.condition(0, 0, 121, 120, 0);
        x.records(0, 2);
        return x;
    }

    private static void mean() {
        CHECKS.sentence("MEAN of place j: the sum .. by how many they are, cut. LOW, HIGH: the least, the greatest. NONE: no RECORDS");
        TriggerScopes x = recordsOf(0, 200, 7, 201, 8);
        int[] both = new int[6];
        for (int i = 0; i < 6; i++) {
            both[i] = x.mean(i / 3, i % 3);
        }
        CHECKS.answers("two RECORDS", both, 200, 200, 201, 7, 7, 8);
        x = recordsOf(0, 255, 3);
        CHECKS.answers("one RECORD", new int[] {x.mean(0, 0), x.mean(0, 1), x.mean(0, 2)}, 255, 255, 255);
        x = recordsOf(0, 200, 7, 202, 0, 203, 9);
        CHECKS.answers("605 by 3 and 16 by 3", new int[] {x.mean(0, 0), x.mean(1, 0)}, 201, 5);
        CHECKS.answers("least in the middle", new int[] {x.mean(1, 1), x.mean(1, 2)}, 0, 9);
        x = recordsOf(0, 200, 7, 202, 9, 203, 0, 130, 1);
        CHECKS.answers("greatest in the middle", new int[] {x.mean(0, 1), x.mean(0, 2), x.mean(1, 2)}, 130, 203, 9);
        x = recordsOf(0, 200);
        CHECKS.answers("a TRIGGER, no RECORD", new int[] {x.mean(0, 0), x.mean(0, 1), x.mean(0, 2)}, NONE, NONE, NONE);
        x = Checks.scope("l0 1;l255 1;x30;x3;");
        x.records(0, 1);
        due("124 RECORDS", x.record(-1, 0), 124);
        CHECKS.answers("of 255", new int[] {x.mean(0, 0), x.mean(0, 1), x.mean(0, 2)}, 255, 255, 255);
        x.records(1, 1);
        CHECKS.answers("of 0", new int[] {x.mean(0, 0), x.mean(0, 1), x.mean(0, 2)}, 0, 0, 0);
    }

    private static void meanNumbers() {
        CHECKS.sentence("Of a place (0 .. LONG less 1): 0 MEAN, 1 LOW, 2 HIGH; NONE: no RECORDS. BAD");
        for (int what = 0; what <= 2; what++) {
            int each = what;
            TWINS.badOutside("mean, place, " + what, 0, 63, (x, n) -> x.mean(n, each));
            TWINS.onlyAsks("mean(0, " + what + ")", x -> x.mean(0, each));
        }
        TWINS.badOutside("mean, what", 0, 2, (x, n) -> x.mean(0, n));
        TWINS.bad("mean, both wrong", x -> x.mean(-1, 3));
        for (int length : new int[] {1, 16, 17, 64}) {
            TriggerScopes x = Checks.scope("l0 9;l200 1;l3 99;");
            x.records(0, length);
            due("last place of " + length, x.mean(length - 1, 0), length == 1 ? 200 : 3);
            due("behind it", x.mean(length, 0), BAD);
            Checks.tell(x, "");
            due("no RECORDS, last place", x.mean(length - 1, 2), NONE);
            due("no RECORDS, behind it", x.mean(length, 2), BAD);
            due("no RECORDS, what 3", x.mean(0, 3), BAD);
        }
    }

    private static void joined() {
        CHECKS.sentence("RECORD k has been sampled at its places j with j modulo s like k modulo s alone; NONE: there is none");
        // RECORDS 0 .. 3 have 200, 210, 230, 240 and 1, 2, 4, 9 at places 0 and 1.
        TriggerScopes x = recordsOf(0, 200, 1, 210, 2, 230, 4, 240, 9);
        due("by 1, place 0: all", x.joined(1, 0), 220);
        due("by 1, place 1: all, cut", x.joined(1, 1), 4);
        due("by 2, place 0: 0 and 2", x.joined(2, 0), 215);
        due("by 2, place 1: 1 and 3, cut", x.joined(2, 1), 5);
        due("by 3, place 0: 0 and 3", x.joined(3, 0), 220);
        due("by 3, place 1: 1", x.joined(3, 1), 2);
        due("by 4, place 1: 1", x.joined(4, 1), 2);
        due("by 16, place 0: 0", x.joined(16, 0), 200);
        x.records(0, 1);
        due("by 4, place 0: 0", x.joined(4, 0), 200);
        x.records(0, 2);
        x.holds(2);
        // RECORDS of 200 and 230.
        due("by 2, place 1: 1", x.joined(2, 1), 4);
        x.holds(300);
        due("one RECORD: by 2, place 0", x.joined(2, 0), 200);
        due("one RECORD: by 2, place 1", x.joined(2, 1), NONE);
        due("one RECORD: by 1, place 1", x.joined(1, 1), 1);
        // A place of s and more is like the one s ahead of it.
        x = Checks.scope("l0 2;l200 1;r9 9;l0 9;l200 1;l30 30;");
        x.records(0, 20);
        due("two RECORDS", x.record(-1, 0), 2);
        int[] wants = {200, 30, NONE, 200 - 191 * 3 / 9, 30, NONE, 200 - 191 * 6 / 9};
        for (int j = 0; j <= 6; j++) {
            due("by 3, place " + j, x.joined(3, j), wants[j]);
        }
        due("by 16, place 15", x.joined(16, 15), NONE);
        due("by 16, place 16: RECORD 0", x.joined(16, 16), 0);
        due("by 16, place 17: RECORD 1", x.joined(16, 17), 30);
        due("by 16, place 18", x.joined(16, 18), NONE);
        x = Checks.scope("l0 1;l255 1;x30;x3;");
        x.records(0, 1);
        due("124 RECORDS, by 1", x.joined(1, 0), 255);
        due("124 RECORDS, by 16", x.joined(16, 0), 255);
    }

    private static void joinedNumbers() {
        CHECKS.sentence("JOINED by s (1 .. 16), place j (0 .. LONG less 1); NONE. BAD");
        TWINS.badOutside("joined, s", 1, 16, (x, n) -> x.joined(n, 0));
        TWINS.badOutside("joined, place by 1", 0, 63, (x, n) -> x.joined(1, n));
        TWINS.badOutside("joined, place by 16", 0, 63, (x, n) -> x.joined(16, n));
        TWINS.bad("joined, both wrong", x -> x.joined(0, -1));
        for (int s : new int[] {1, 2, 15, 16}) {
            TWINS.onlyAsks("joined(" + s + ", 0)", x -> x.joined(s, 0));
            TWINS.onlyAsks("joined(" + s + ", 2)", x -> x.joined(s, 2));
        }
        for (int length : new int[] {1, 16, 17, 64}) {
            TriggerScopes x = Checks.scope("l0 9;l200 1;l3 99;");
            x.records(0, length);
            due("last place of " + length, x.joined(1, length - 1), length == 1 ? 200 : 3);
            due("behind it", x.joined(1, length), BAD);
            Checks.tell(x, "");
            due("no RECORDS, last place", x.joined(1, length - 1), NONE);
            due("no RECORDS, behind it", x.joined(1, length), BAD);
            due("no RECORDS, by 17", x.joined(17, 0), BAD);
        }
    }

    private static void measuresAre(TriggerScopes x, int a, int b, int... want) {
        int[] got = new int[7];
        for (int what = 0; what <= 6; what++) {
            got[what] = x.measure(a, b, what);
        }
        CHECKS.answers("from " + a + " to " + b, got, want);
    }

    private static void gates() {
        CHECKS.sentence("MEASURES of SAMPLES from a GATE to another one: PEAK the greatest, DIP the least");
        TriggerScopes x = Checks.scope(Checks.levels(9, 1, 5, 0, 255, 3, 7));
        measuresAre(x, 0, 6, 255, 0, 1, NONE, NONE, NONE, NONE);
        measuresAre(x, 0, 2, 9, 1, 1, NONE, NONE, NONE, NONE);
        measuresAre(x, 1, 2, 5, 1, 1, NONE, NONE, NONE, NONE);
        measuresAre(x, 0, 0, 9, 9, 0, NONE, NONE, NONE, NONE);
        measuresAre(x, 6, 6, 7, 7, 0, NONE, NONE, NONE, NONE);
        measuresAre(x, 3, 4, 255, 0, 1, NONE, NONE, NONE, NONE);
        measuresAre(x, 4, 6, 255, 3, 0, NONE, NONE, NONE, NONE);
        measuresAre(x, 5, 6, 7, 3, 1, NONE, NONE, NONE, NONE);
        x = Checks.scope("l3 299;l200 1;");
        measuresAre(x, 0, 299, 200, 3, 1, NONE, NONE, NONE, NONE);
        measuresAre(x, 0, 298, 3, 3, 0, NONE, NONE, NONE, NONE);
        measuresAre(x, 299, 299, 200, 200, 0, NONE, NONE, NONE, NONE);
    }

    private static void gateNumbers() {
        CHECKS.sentence("From GATE a to b (SAMPLES, a not above b): 0 PEAK .. 6. BAD");
        for (int what = 0; what <= 6; what++) {
            int each = what;
            TWINS.badOutside("measure, a, " + what, 0, 299, (x, n) -> x.measure(n, 0, each));
            TWINS.badOutside("measure, b, " + what, 0, 299, (x, n) -> x.measure(0, n, each));
            TWINS.badOutside("measure, both, " + what, 0, 299, (x, n) -> x.measure(n, n, each));
            TWINS.bad("measure(1, 0, " + what + ")", x -> x.measure(1, 0, each));
            TWINS.onlyAsks("measure(0, 34, " + what + ")", x -> x.measure(0, 34, each));
            TWINS.onlyAsks("measure(34, 35, " + what + ")", x -> x.measure(34, 35, each));
            TWINS.changesNothing("measure(34, 35)", Twins.BUSY, BAD, x -> x.measure(34, 35, each));
            TWINS.changesNothing("measure(35, 35)", Twins.BUSY, BAD, x -> x.measure(35, 35, each));
            TWINS.changesNothing("measure(0, 0)", Twins.NEW, BAD, x -> x.measure(0, 0, each));
            TWINS.changesNothing("measure(34, 33)", Twins.BUSY, BAD, x -> x.measure(34, 33, each));
            TWINS.changesNothing("measure(299, 298)", Twins.CRAMMED, BAD, x -> x.measure(299, 298, each));
        }
        TWINS.badOutside("measure, what", 0, 6, (x, n) -> x.measure(0, 0, n));
        TWINS.badOutside("measure, what of a wide gate", 0, 6, (x, n) -> x.measure(0, 34, n));
        TriggerScopes x = Checks.scope("l8 300;");
        due("measure(0, 299, 0)", x.measure(0, 299, 0), 8);
        due("measure(0, 300, 0)", x.measure(0, 300, 0), BAD);
        due("measure(299, 299, 0)", x.measure(299, 299, 0), 8);
        Checks.tell(x, "l9 2;");
        due("gates of the signal ahead", x.measure(0, 2, 0), BAD);
        due("gates of this one", x.measure(0, 1, 0), 9);
    }

    private static void middle() {
        CHECKS.sentence("MIDDLE: (PEAK + DIP) / 2; a RISE is a SAMPLE of MIDDLE or more .. whose SAMPLE ahead .. is below MIDDLE");
        // PEAK 10, DIP 0: MIDDLE 5.
        due("5 is MIDDLE", Checks.scope(Checks.levels(0, 5, 0, 10)).measure(0, 3, 2), 2);
        due("4 is below", Checks.scope(Checks.levels(0, 4, 0, 10)).measure(0, 3, 2), 1);
        due("ahead 4", Checks.scope(Checks.levels(0, 10, 4, 10)).measure(0, 3, 2), 2);
        due("ahead 5", Checks.scope(Checks.levels(0, 10, 5, 10)).measure(0, 3, 2), 1);
        // PEAK 9, DIP 0: MIDDLE 4, cut.
        due("4 is MIDDLE, cut", Checks.scope(Checks.levels(0, 4, 0, 9)).measure(0, 3, 2), 2);
        due("3 is below", Checks.scope(Checks.levels(0, 3, 0, 9)).measure(0, 3, 2), 1);
        // PEAK 255, DIP 254: MIDDLE 254, and no SAMPLE is below.
        due("DIP is MIDDLE", Checks.scope(Checks.levels(254, 255, 254, 255)).measure(0, 3, 2), 0);
        due("PEAK 255, DIP 253: MIDDLE 254", Checks.scope(Checks.levels(253, 254, 253, 255)).measure(0, 3, 2), 2);
        due("all alike", Checks.scope("l255 300;").measure(0, 299, 2), 0);
        due("all 0", Checks.scope("l0 300;").measure(0, 299, 2), 0);
    }

    private static void rises() {
        CHECKS.sentence("a RISE is .. within the GATES whose SAMPLE ahead of it, also within, is below MIDDLE");
        TriggerScopes x = Checks.scope(Checks.levels(0, 10, 0, 10, 0, 10, 0));
        due("all", x.measure(0, 6, 2), 3);
        due("the SAMPLE ahead is outside", x.measure(1, 6, 2), 2);
        due("the RISE is the last", x.measure(0, 5, 2), 3);
        due("the RISE is outside", x.measure(0, 4, 2), 2);
        due("of one", x.measure(1, 1, 2), 0);
        x = Checks.scope("l0 1;l9 1;x30;x3;");
        due("124 of 248", x.measure(0, 247, 2), 124);
        Checks.tell(x, "l0 1;l9 1;x29;x4;");
        due("150 of 300", x.measure(0, 299, 2), 150);
    }

    private static void periodAndDuty() {
        CHECKS.sentence("3 and 4 the upper and lower number of PERIOD, 5 and 6 of DUTY (NONE, if there are fewer than 2 RISES)");
        TriggerScopes x = Checks.scope(Checks.levels(9, 0, 9, 0, 0, 9, 9, 0));
        measuresAre(x, 0, 0, 9, 9, 0, NONE, NONE, NONE, NONE);
        measuresAre(x, 0, 1, 9, 0, 0, NONE, NONE, NONE, NONE);
        measuresAre(x, 0, 4, 9, 0, 1, NONE, NONE, NONE, NONE);
        // RISES at 2 and 5: 3 by 1; of SAMPLES 2, 3, 4 the first one is high.
        measuresAre(x, 0, 5, 9, 0, 2, 3, 1, 1, 3);
        measuresAre(x, 0, 7, 9, 0, 2, 3, 1, 1, 3);
        measuresAre(x, 1, 7, 9, 0, 2, 3, 1, 1, 3);
        measuresAre(x, 2, 7, 9, 0, 1, NONE, NONE, NONE, NONE);
        CHECKS.sentence("PERIOD: from the first RISE to the last one, by RISES less 1; DUTY .. to the one ahead of the last RISE (in least terms)");
        // RISES at 1, 3, 6: 5 by 2; of SAMPLES 1 .. 5 three are high.
        x = Checks.scope(Checks.levels(0, 9, 0, 9, 9, 0, 9, 9, 9));
        measuresAre(x, 0, 8, 9, 0, 3, 5, 2, 3, 5);
        // RISES at 1, 3, 7: 6 by 2 is 3 by 1; of SAMPLES 1 .. 6 two are high: 1 by 3.
        x = Checks.scope(Checks.levels(0, 9, 0, 9, 0, 0, 0, 9));
        measuresAre(x, 0, 7, 9, 0, 3, 3, 1, 1, 3);
        // MIDDLE 5: RISES at 1 and 4; of SAMPLES 1, 2, 3 the two of MIDDLE itself count.
        x = Checks.scope(Checks.levels(0, 5, 5, 4, 10));
        measuresAre(x, 0, 4, 10, 0, 2, 3, 1, 2, 3);
        x = Checks.scope("l0 1;l9 1;x29;x4;");
        measuresAre(x, 0, 299, 9, 0, 150, 2, 1, 1, 2);
        // As far apart as two can be: 1 and 299; high at 1 alone, or at all but 298.
        x = Checks.scope("l0 1;l9 1;l0 297;l9 1;");
        measuresAre(x, 0, 299, 9, 0, 2, 298, 1, 1, 298);
        x = Checks.scope("l0 1;l9 297;l0 1;l9 1;");
        measuresAre(x, 0, 299, 9, 0, 2, 298, 1, 297, 298);
    }

    private static void alias() {
        CHECKS.sentence("ALIAS: how many TRIGGERS there would be, had THE SIGNAL only SAMPLES 0, s, 2 s .. (numbered anew)");
        for (int s = 2; s <= 16; s++) {
            due("the SAMPLE s is there, by " + s, Checks.scope("l0 " + s + ";l200 1;").alias(s), 1);
            due("it is not, by " + s, Checks.scope("l0 " + (s - 1) + ";l200 1;").alias(s), 0);
            due("SAMPLE s less 1 is not taken, by " + s, Checks.scope("l0 " + (s - 1) + ";l200 1;l0 9;").alias(s), 0);
            due("no SAMPLES, by " + s, new TriggerScopes().alias(s), 0);
            due("one SAMPLE, by " + s, Checks.scope("l200 1;").alias(s), 0);
        }
        TriggerScopes x = Checks.scope("l0 1;l200 1;x29;x4;");
        due("TRIGGERS of 300", x.trigger(-1), 150);
        due("by 2 it is flat", x.alias(2), 0);
        due("by 3 it is as fast", x.alias(3), 50);
        due("by 15", x.alias(15), 10);
        due("by 16 it is flat", x.alias(16), 0);
        Checks.tell(x, "l0 2;l200 2;x29;x1;");
        due("240 by 2", x.alias(2), 60);
        Checks.tell(x, "l0 298;l200 1;");
        due("the last of 299 by 2", x.alias(2), 1);
        Checks.tell(x, "l0 288;l200 1;l0 11;");
        due("288 of 300 by 16", x.alias(16), 1);
        // Nothing comes behind the last SAMPLE, where s goes into their number and where not.
        x.condition(0, 1, 128, 120, 0);
        for (int samples = 2; samples <= 33; samples++) {
            Checks.tell(x, "l200 " + samples + ";");
            due(samples + " high ones by 2", x.alias(2), 0);
            due(samples + " high ones by 16", x.alias(16), 0);
        }
    }

    private static void aliasAllElseAsItIs() {
        CHECKS.sentence("ALIAS .. (numbered anew; all else as it is)");
        // By 2 it is 0, 200, 0, 200, ..: A at the slow places 1, 3, .. 19.
        TriggerScopes x = Checks.scope("l0 2;l200 2;x9;");
        x.holds(1);
        due("HOLD 1, of slow places 2 apart", x.alias(2), 10);
        x.holds(2);
        due("HOLD 2, of slow places 2 apart", x.alias(2), 5);
        x.holds(3);
        due("HOLD 3", x.alias(2), 5);
        x.holds(4);
        due("HOLD 4", x.alias(2), 4);
        x = fiftyAndHundred("l0 10;l50 2;l0 8;l100 2;l0 8;");
        x.modes(1, 9);
        due("10 apart, SPAN 9", x.trigger(-1), 0);
        x.modes(1, 4);
        due("5 apart by 2, SPAN 4", x.alias(2), 0);
        x.modes(1, 5);
        due("5 apart by 2, SPAN 5", x.alias(2), 1);
        x.modes(2, 4);
        due("5 apart by 2, UNLESS, SPAN 4", x.alias(2), 1);
        x.modes(2, 5);
        due("5 apart by 2, UNLESS, SPAN 5", x.alias(2), 0);
        x = Checks.scope("l0 4;l200 6;l0 4;");
        x.condition(0, 3, 100, 3, 3);
        due("a PULSE of 6 is one of 3 by 2", x.alias(2), 1);
        due("and of 2 by 3", x.alias(3), 0);
        x.condition(0, 3, 100, 2, 2);
        due("2 by 3", x.alias(3), 1);
        x.records(63, 64);
        due("RECORDS are none of it", x.alias(3), 1);
    }

    private static void aliasNumbers() {
        CHECKS.sentence("ALIAS by s (2 .. 16). BAD");
        TWINS.badOutside("alias", 2, 16, TriggerScopes::alias);
        TWINS.bad("alias(0)", x -> x.alias(0));
        for (int s = 2; s <= 16; s++) {
            int each = s;
            TWINS.onlyAsks("alias(" + s + ")", x -> x.alias(each));
        }
        TriggerScopes x = Checks.scope("l0 2;l200 2;x9;");
        x.alias(3);
        due("SAMPLES behind alias()", x.count(0), 40);
        due("TRIGGERS behind alias()", x.trigger(-1), 10);
        due("the last one", x.trigger(9), 38);
        due("fires behind alias()", x.fires(0, 9), 38);
    }
}
