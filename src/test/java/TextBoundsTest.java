/** The document's sentences that name a boundary case of THE TEXT and THE SIGNAL: promises 1 to 5 and their terms. */
public final class TextBoundsTest {
    private static final int BAD = TriggerScopes.BAD, STATE = TriggerScopes.STATE, FULL = TriggerScopes.FULL,
            NONE = TriggerScopes.NONE;
    private static final Checks CHECKS = new Checks();
    private static final Twins TWINS = new Twins(CHECKS);
    private static final String FIGURES = "0123456789";

    public static void main(String[] args) {
        newObject();
        letters();
        fullText();
        clear();
        sampleNumbers();
        mostSamples();
        mostSamplesByRepeats();
        values();
        slopes();
        slopeFromTheOneAhead();
        repeats();
        blanks();
        tokensByEveryLetter();
        items();
        numbersAsLongAsTheyCanBe();
        numbersThatWrapAround();
        numbersWithZeroAhead();
        levelNumbers();
        sampleCounts();
        repeatCounts();
        faultIsTheFirst();
        faultOfTooManySamples();
        faultOfAnItemNotEnded();
        signalWithAFault();
        signalWithout();
        CHECKS.end();
    }

    private static void due(String call, long got, long want) {
        CHECKS.due(call, got, want);
    }

    private static void reads(String text, int... samples) {
        CHECKS.answers("'" + text + "'", Checks.samplesOf(Checks.scope(text)), samples);
    }

    private static void readsMany(String text, int samples) {
        TriggerScopes x = new TriggerScopes();
        due("'" + text + "'", Checks.tell(x, text), samples);
        due("'" + text + "': SAMPLES", x.count(0), samples);
        due("'" + text + "': behind the last", x.sample(samples), BAD);
        due("'" + text + "': letters", x.count(7), 0);
    }

    /** A FAULT's answer, of a new object and of a busy one, which stays as it was. */
    private static void fault(String text, int place) {
        due("'" + text + "' on a new object", Checks.tell(new TriggerScopes(), text), -10 - place);
        Twins.Story typed = x -> {
            Twins.BUSY.tell(x);
            x.clear();
            Checks.typeAll(x, text);
        };
        TWINS.changesNothing("'" + text + "'", typed, -10 - place, TriggerScopes::signal);
    }

    private static void newObject() {
        CHECKS.sentence("No SAMPLES; all else as at first");
        TriggerScopes x = new TriggerScopes();
        CHECKS.answers("setup", Checks.setupOf(x), 0, 128, 120, 0, 0, 128, 120, 0, 0, 20, 0, 4, 16);
        CHECKS.answers("counts", new int[] {x.count(0), x.count(6), x.count(7), x.count(8)}, 0, 0, 0, 0);
        due("sample(0)", x.sample(0), BAD);
        due("fires(0, 0)", x.fires(0, 0), NONE);
        due("fires(1, 0)", x.fires(1, 0), NONE);
        due("trigger(-1)", x.trigger(-1), 0);
        due("trigger(0)", x.trigger(0), NONE);
        due("record(-1, -5)", x.record(-1, -5), 0);
        due("record(0, -1)", x.record(0, -1), NONE);
        due("record(0, 15)", x.record(0, 15), NONE);
        due("record(0, 16)", x.record(0, 16), BAD);
        due("mean(15, 2)", x.mean(15, 2), NONE);
        due("joined(1, 15)", x.joined(1, 15), NONE);
        due("measure(0, 0, 0)", x.measure(0, 0, 0), BAD);
        due("alias(2)", x.alias(2), 0);
        due("unseen()", x.unseen(), 63);
        due("undo()", x.undo(), STATE);
        due("back(0)", x.back(0), STATE);
        due("back(1)", x.back(1), STATE);
        due("clear()", x.clear(), 0);
        due("forget()", x.forget(), 0);
        due("signal()", x.signal(), 0);
    }

    private static void letters() {
        CHECKS.sentence("A letter (0 .. 255) comes to THE TEXT: how many it has. BAD");
        TriggerScopes x = new TriggerScopes();
        due("type(0)", x.type(0), 1);
        due("type(255)", x.type(255), 2);
        due("clear()", x.clear(), 2);
        // 256 and a letter would be that letter in a byte, 65536 and a letter in a char.
        for (int letter : new int[] {-1, 256, 256 + 'l', 65536 + 'l', 'l' - 256, Integer.MIN_VALUE,
            Integer.MAX_VALUE}) {
            TWINS.bad("type(" + letter + ")", y -> y.type(letter));
        }
    }

    private static void fullText() {
        CHECKS.sentence("a text (100 letters at most); FULL: 100");
        TriggerScopes x = new TriggerScopes();
        for (int i = 1; i <= 100; i++) {
            due("type, letter " + i, x.type(i <= 95 ? ' ' : "l7 2;".charAt(i - 96)), i);
        }
        due("type beyond", x.type(' '), FULL);
        due("type beyond, again", x.type(';'), FULL);
        due("letters", x.count(7), 100);
        due("all 100 are read", x.signal(), 2);
        due("room again behind signal()", x.type('l'), 1);
        due("no more than that", x.count(7), 1);
        for (int letter : new int[] {0, ' ', '1', 255}) {
            TWINS.changesNothing("type(" + letter + ")", Twins.CRAMMED, FULL, y -> y.type(letter));
        }
        CHECKS.sentence("Refused, the first of these that is so: BAD, STATE, FULL");
        TWINS.changesNothing("type(-1) to a full text", Twins.CRAMMED, BAD, y -> y.type(-1));
        TWINS.changesNothing("type(256) to a full text", Twins.CRAMMED, BAD, y -> y.type(256));
        due("99 letters", textOf(99).type(' '), 100);
        TriggerScopes y = textOf(100);
        due("a full text with a FAULT", y.signal(), -10);
        due("stays full", y.type(' '), FULL);
    }

    private static TriggerScopes textOf(int letters) {
        TriggerScopes x = new TriggerScopes();
        Checks.typeAll(x, "z".repeat(letters));
        return x;
    }

    private static void clear() {
        CHECKS.sentence("THE TEXT is empty: how many letters it had");
        for (int letters : new int[] {0, 1, 99, 100}) {
            TriggerScopes x = textOf(letters);
            due("clear()", x.clear(), letters);
            due("letters", x.count(7), 0);
            due("clear() again", x.clear(), 0);
            due("nothing is left to read", x.signal(), 0);
            due("room again", x.type('l'), 1);
        }
        TriggerScopes x = new TriggerScopes();
        Twins.BUSY.tell(x);
        int[] setup = Checks.setupOf(x);
        x.clear();
        CHECKS.answers("setup behind clear()", Checks.setupOf(x), setup);
        CHECKS.answers("counts behind clear()", new int[] {x.count(0), x.count(6), x.count(7), x.count(8)}, 35, 3, 0, 5);
        TWINS.changesNothing("clear() of an empty text", y -> {
            Twins.BUSY.tell(y);
            y.clear();
        }, 0, TriggerScopes::clear);
    }

    private static void sampleNumbers() {
        CHECKS.sentence("A SAMPLE. BAD");
        TWINS.badOutside("sample", 0, 299, TriggerScopes::sample);
        TriggerScopes x = Checks.scope("l4 299;l5 1;");
        due("sample(0)", x.sample(0), 4);
        due("sample(298)", x.sample(298), 4);
        due("sample(299)", x.sample(299), 5);
        Checks.tell(x, "l9 2;");
        due("sample(1) of 2", x.sample(1), 9);
        due("sample(2) of 2, which the signal ahead had", x.sample(2), BAD);
        Checks.tell(x, "");
        due("sample(0) of none", x.sample(0), BAD);
        TWINS.onlyAsks("sample(0)", y -> y.sample(0));
        TWINS.onlyAsks("sample(34)", y -> y.sample(34));
        TWINS.onlyAsks("sample(35)", y -> y.sample(35));
    }

    private static void mostSamples() {
        CHECKS.sentence("SAMPLES 0, 1, .. (never more than 300)");
        readsMany("l5 300;", 300);
        fault("l5 301;", 3);
        readsMany("r5 300;", 300);
        fault("r5 301;", 3);
        readsMany("l5 299;l6 1;", 300);
        fault("l5 299;l6 2;", 10);
        readsMany("l5 299;r6 1;", 300);
        fault("l5 299;r6 2;", 10);
        readsMany("l5 1;l6 299;", 300);
        fault("l5 1;l6 300;", 8);
        fault("l5 1;r6 300;", 8);
        fault("l5 300;l6 1;", 10);
        fault("l5 300;r6 1;", 10);
        TriggerScopes x = Checks.scope("l5 300;");
        due("300 anew behind 300", Checks.tell(x, "l6 300;"), 300);
        due("the last of them", x.sample(299), 6);
    }

    private static void mostSamplesByRepeats() {
        CHECKS.sentence("x N: all SAMPLES told so far, N times more behind themselves; never more than 300");
        readsMany("l5 10;x29;", 300);
        fault("l5 10;x30;", 7);
        readsMany("l5 150;x1;", 300);
        fault("l5 151;x1;", 8);
        readsMany("l5 100;x2;", 300);
        fault("l5 101;x2;", 8);
        readsMany("l5 9;x30;", 279);
        readsMany("l5 1;x30;", 31);
        fault("l5 300;x1;", 8);
        fault("l5 300;x30;", 8);
        readsMany("l5 75;x1;x1;", 300);
        fault("l5 76;x1;x1;", 10);
        readsMany("l5 75;x1;l6 150;", 300);
        fault("l5 75;x1;l6 151;", 12);
    }

    private static void values() {
        CHECKS.sentence("SAMPLES, each 0 .. 255");
        reads("l0 1;l255 1;", 0, 255);
        reads("r255 1;r0 1;r255 1;", 255, 0, 255);
        reads("l255 1;r0 3;r255 3;", 255, 170, 85, 0, 85, 170, 255);
        TriggerScopes x = Checks.scope("r255 299;r0 1;");
        for (int k = 0; k < 299; k++) {
            due("slope up, SAMPLE " + k, x.sample(k), 255 * (k + 1) / 299);
        }
        due("at once to 0", x.sample(299), 0);
        x = Checks.scope("l255 1;r0 299;");
        for (int k = 1; k <= 299; k++) {
            due("slope down, SAMPLE " + k, x.sample(k), 255 - 255 * k / 299);
        }
    }

    private static void slopes() {
        CHECKS.sentence("the k-th of them (1 on) is c and (V less c) times k by N, in Java's int");
        reads("r10 4;", 2, 5, 7, 10);
        reads("r1 3;", 0, 0, 1);
        reads("r0 2;", 0, 0);
        reads("l10 1;r0 4;", 10, 8, 5, 3, 0);
        reads("l1 1;r0 3;", 1, 1, 1, 0);
        reads("l200 1;r201 2;r199 4;", 200, 200, 201, 201, 200, 200, 199);
        reads("l7 1;r7 2;", 7, 7, 7);
    }

    private static void slopeFromTheOneAhead() {
        CHECKS.sentence("from the one ahead (c; 0 ahead of the first one) to V");
        reads("r8 2;", 4, 8);
        reads("l2 1;r8 2;", 2, 5, 8);
        reads("r8 2;r0 2;", 4, 8, 4, 0);
        reads("l9 1;l1 1;x1;r5 2;", 9, 1, 9, 1, 3, 5);
        reads("x1;r8 2;", 4, 8);
        TriggerScopes x = Checks.scope("l100 1;");
        due("a signal anew", Checks.tell(x, "r8 2;"), 2);
        CHECKS.answers("begins at 0 again", Checks.samplesOf(x), 4, 8);
        due("a FAULT behind 100", Checks.tell(x, "l100 1;z"), -17);
        Checks.tell(x, "r8 2;");
        CHECKS.answers("begins at 0 behind a FAULT, too", Checks.samplesOf(x), 4, 8);
    }

    private static void repeats() {
        CHECKS.sentence("x N: all SAMPLES told so far, N times more behind themselves");
        reads("l1 1;l2 1;x1;", 1, 2, 1, 2);
        reads("l1 1;l2 1;x2;", 1, 2, 1, 2, 1, 2);
        reads("l1 1;x1;l3 1;x1;", 1, 1, 3, 1, 1, 3);
        reads("l1 1;x1;x1;", 1, 1, 1, 1);
        reads("x1;");
        reads("x30;x30;");
        reads("x30;l4 1;", 4);
        TriggerScopes x = Checks.scope("l1 3;");
        due("x of none, not of the signal ahead", Checks.tell(x, "x5;"), 0);
    }

    private static void blanks() {
        CHECKS.sentence("blanks (32) may stand ahead of, between and behind TOKENS (none needed where TOKENS end without)");
        reads("l4 1;r8 2;x1;", 4, 6, 8, 4, 6, 8);
        reads(" l 4 1 ; r 8 2 ; x 1 ; ", 4, 6, 8, 4, 6, 8);
        reads("   l   4   1   ;   r8   2;   x   1;   ", 4, 6, 8, 4, 6, 8);
        reads("l4 1;" + " ".repeat(95), 4);
        reads(" ".repeat(95) + "l4 1;", 4);
        reads("l" + " ".repeat(32) + "4" + " ".repeat(32) + "1" + " ".repeat(32) + ";", 4);
        // Others that might pass for a blank: tab, line's end, return, 0, 31, 33, the 160 of Latin-1.
        for (int letter : new int[] {9, 10, 13, 0, 31, 33, 160}) {
            fault((char) letter + "l4 1;", 0);
            fault("l" + (char) letter + "4 1;", 1);
            fault("l4" + (char) letter + "1;", 2);
            fault("l4 1" + (char) letter + ";", 4);
            fault("l4 1;" + (char) letter, 5);
        }
        // A blank ends a NUMBER.
        fault("l1 2 3;", 5);
        fault("x1 0;", 3);
    }

    /** What comes of each letter behind a text ahead: those that may go on, those that end it well; else a FAULT. */
    private static void nextLetters(String ahead, int faultPlace, String goOn, String ends, int samples) {
        for (int letter = 0; letter <= 255; letter++) {
            int want = -10 - faultPlace;
            if (goOn.indexOf(letter) >= 0) {
                want = -10 - (ahead.length() + 1);
            } else if (ends.indexOf(letter) >= 0) {
                want = samples;
            }
            due("'" + ahead + "' and letter " + letter, Checks.tell(new TriggerScopes(), ahead + (char) letter), want);
        }
    }

    private static void tokensByEveryLetter() {
        CHECKS.sentence("TOKENS: the letters l, r, x, NUMBERS and ; - a letter that begins no TOKEN is one itself");
        String notZero = "123456789";
        nextLetters("", 0, "lrx", " ", 0);
        nextLetters(" ", 1, "lrx", " ", 0);
        nextLetters("l", 1, FIGURES + " ", "", 0);
        nextLetters("r ", 2, FIGURES + " ", "", 0);
        nextLetters("l5", 2, FIGURES + " ", "", 0);
        nextLetters("l5 ", 3, notZero + " ", "", 0);
        nextLetters("r5 ", 3, notZero + " ", "", 0);
        nextLetters("l5 1", 4, FIGURES + " ", ";", 1);
        nextLetters("r5 1 ", 5, " ", ";", 1);
        nextLetters("x", 1, notZero + " ", "", 0);
        nextLetters("x ", 2, notZero + " ", "", 0);
        nextLetters("x2", 2, FIGURES + " ", ";", 0);
        nextLetters("x2 ", 3, " ", ";", 0);
        nextLetters("l5 1;", 5, "lrx", " ", 1);
        nextLetters("x2;", 3, "lrx", " ", 0);
    }

    private static void items() {
        CHECKS.sentence("ITEMS (none, too), each ended by ;");
        readsMany("", 0);
        readsMany(" ", 0);
        readsMany(" ".repeat(100), 0);
        readsMany("l5 1;", 1);
        readsMany("l1 1;".repeat(20), 20);
        readsMany("x1;".repeat(33), 0);
        fault(";", 0);
        fault("l5 1;;", 5);
        fault(" ;l5 1;", 1);
        fault("l5 1l6 1;", 4);
        fault("l5 1 r6 1;", 5);
        fault("x1x1;", 2);
        TriggerScopes x = Checks.scope("l5 3;");
        due("no ITEMS tell a signal of none anew", x.signal(), 0);
        due("SAMPLES", x.count(0), 0);
    }

    private static void numbersAsLongAsTheyCanBe() {
        CHECKS.sentence("NUMBERS (rows of figures, as long as they can be)");
        reads("l12 3;", 12, 12, 12);
        reads("l123 1;", 123);
        reads("l1 23;r5 1;x1;", repeated(23, 1, 5));
        fault("l123;", 4);
        fault("l1231;", 1);
        fault("l" + "1".repeat(99), 1);
        fault("l1 " + "2".repeat(97), 3);
        fault("x" + "2".repeat(99), 1);
        fault("l" + "9".repeat(30) + " 1;", 1);
        fault("l1 " + "9".repeat(30) + ";", 3);
        fault("x" + "9".repeat(30) + ";", 1);
    }

    private static int[] repeated(int n, int level, int last) {
        int[] samples = new int[2 * n + 2];
        java.util.Arrays.fill(samples, level);
        samples[n] = last;
        samples[2 * n + 1] = last;
        return samples;
    }

    private static void numbersThatWrapAround() {
        CHECKS.sentence("V is 0 .. 255, N of l and r 1 .. 300, N of x 1 .. 30 (numbers that a byte, an int, a long would wrap)");
        // 2 to the 8th, 16th, 31st, 32nd, 63rd and 64th, and 5 more than these.
        String[] numbers = {"261", "65541", "2147483648", "2147483653", "4294967296", "4294967301",
            "9223372036854775808", "9223372036854775813", "18446744073709551616", "18446744073709551621",
            "1000000000000000000000000000005", "10000000005", "1000", "1001", "1005"};
        for (String number : numbers) {
            fault("l" + number + " 1;", 1);
            fault("r" + number + " 1;", 1);
            fault("x" + number + ";", 1);
            if (number.length() > 3) {
                fault("l5 " + number + ";", 3);
                fault("r5 " + number + ";", 3);
            }
        }
    }

    private static void numbersWithZeroAhead() {
        CHECKS.sentence("FAULT: a NUMBER that is not as told (one that begins with 0 and has more figures, too)");
        reads("l0 1;", 0);
        reads("r0 1;", 0);
        reads("l10 10;", 10, 10, 10, 10, 10, 10, 10, 10, 10, 10);
        reads("l100 1;x10;", 100, 100, 100, 100, 100, 100, 100, 100, 100, 100, 100);
        fault("l00 1;", 1);
        fault("l000 1;", 1);
        fault("l01 1;", 1);
        fault("l0255 1;", 1);
        fault("r00 1;", 1);
        fault("r07 1;", 1);
        fault("l5 01;", 3);
        fault("l5 00;", 3);
        fault("l5 0300;", 3);
        fault("r5 01;", 3);
        fault("x01;", 1);
        fault("x00;", 1);
        fault("x030;", 1);
        fault("l00", 1);
        fault("l5 01", 3);
        fault("x01", 1);
        fault("l " + "0".repeat(98), 2);
        fault("l" + "0".repeat(40) + "1 1;", 1);
    }

    private static void levelNumbers() {
        CHECKS.sentence("V is 0 .. 255");
        for (String letter : new String[] {"l", "r"}) {
            reads(letter + "0 1;", 0);
            reads(letter + "1 1;", 1);
            reads(letter + "254 1;", 254);
            reads(letter + "255 1;", 255);
            fault(letter + "256 1;", 1);
            fault(letter + "260 1;", 1);
            fault(letter + "300 1;", 1);
            fault(letter + "999 1;", 1);
            fault(letter + "-1 1;", 1);
            fault(letter + "+1 1;", 1);
            fault(letter + " 256", 2);
        }
    }

    private static void sampleCounts() {
        CHECKS.sentence("N of l and r 1 .. 300");
        for (String letter : new String[] {"l", "r"}) {
            reads(letter + "5 1;", 5);
            readsMany(letter + "5 2;", 2);
            readsMany(letter + "5 299;", 299);
            readsMany(letter + "5 300;", 300);
            fault(letter + "5 0;", 3);
            fault(letter + "5 301;", 3);
            fault(letter + "5 310;", 3);
            fault(letter + "5 999;", 3);
            fault(letter + "5 -1;", 3);
            fault(letter + "5  301", 4);
            fault(letter + "5 0", 3);
        }
    }

    private static void repeatCounts() {
        CHECKS.sentence("N of x 1 .. 30");
        readsMany("l5 1;x1;", 2);
        readsMany("l5 1;x29;", 30);
        readsMany("l5 1;x30;", 31);
        fault("l5 1;x31;", 6);
        fault("l5 1;x0;", 6);
        fault("l5 1;x300;", 6);
        fault("x31;", 1);
        fault("x0;", 1);
        fault("x40;", 1);
        fault("x-1;", 1);
        fault("x 31", 2);
        // x has no V.
        fault("x1 1;", 3);
        fault("x;", 1);
    }

    private static void faultIsTheFirst() {
        CHECKS.sentence("FAULT: the place of the first letter of the first TOKEN that is none of those that may stand there");
        fault("z", 0);
        fault("zz", 0);
        fault("   z", 3);
        fault("l 300 0;z", 2);
        fault("l5 0;l300 0;z", 3);
        fault("l5 1;l300 0;z", 6);
        fault("l5 1;l30 0;z", 9);
        fault("l5 1;l30 1;z", 11);
        fault("l", 1);
        fault("ll", 1);
        fault("l;", 1);
        fault("lx1;", 1);
        fault("l5;", 2);
        fault("l5l", 2);
        fault("l5 ;", 3);
        fault("l5 1 1;", 5);
        fault("l5 1 l", 5);
        fault("5", 0);
        fault("5 1;", 0);
        fault("l5 1;5", 5);
        fault("l5 1;  7 7", 7);
        fault("L5 1;", 0);
        fault("R5 1;", 0);
        fault("X1;", 0);
        fault("l5,1;", 2);
        fault("l5 1:", 4);
        fault(" ".repeat(99) + "z", 99);
        fault(" ".repeat(99) + ";", 99);
        fault("\0", 0);
        fault("\u00ff", 0);
    }

    private static void faultOfTooManySamples() {
        CHECKS.sentence("FAULT: .. or an N by which there would be more than 300 SAMPLES");
        fault("l5 300;l5 1;", 10);
        fault("l5 300; r 5  1 ;", 13);
        fault("l5 300; x 1 ;", 10);
        fault("l5 200;x1;l5 301;", 8);
        fault("l5 200;l5 101;z", 10);
        fault("l5 200;l256 101;", 8);
        fault("l5 200;l5 100;l5 1;", 17);
        // Such an N is at fault by itself, whether or not its ITEM is ended.
        fault("l5 200;l5 101", 10);
        fault("l5 200;x1", 8);
        fault("l5 200;x1 z", 8);
    }

    private static void faultOfAnItemNotEnded() {
        CHECKS.sentence("FAULT: if there is no such, but the last ITEM is not ended: the text's length");
        String item = "l 5 1  ;r5 1;x 2;";
        for (int length = 0; length <= item.length(); length++) {
            boolean ended = length == 0 || length == 8 || length == 13 || length == 17;
            if (ended) {
                due("ended at " + length, Checks.tell(new TriggerScopes(), item.substring(0, length)),
                        length == 0 ? 0 : length == 8 ? 1 : length == 13 ? 2 : 6);
            } else {
                fault(item.substring(0, length), length);
            }
        }
        fault("l5 1   ", 7);
        fault("l5 30", 5);
        fault("x" + " ".repeat(99), 100);
        fault(" ".repeat(95) + "l5 11", 100);
        fault("l1 1;".repeat(19) + "l1 11", 100);
        fault("l1 1;".repeat(19) + "   x1", 100);
    }

    private static void signalWithAFault() {
        CHECKS.sentence("-10 less FAULT: nothing changes");
        TWINS.changesNothing("signal()", Twins.BUSY, -17, TriggerScopes::signal);
        TWINS.changesNothing("signal() twice", Twins.BUSY, -17, x -> {
            x.signal();
            return x.signal();
        });
        TriggerScopes x = Checks.scope("l3 2;");
        Checks.typeAll(x, "l9 9");
        due("not ended yet", x.signal(), -14);
        CHECKS.answers("the signal stays", Checks.samplesOf(x), 3, 3);
        due("the text stays, and goes on", x.type(';'), 5);
        due("ended now", x.signal(), 9);
    }

    private static void signalWithout() {
        CHECKS.sentence("A text without a FAULT read: THE SIGNAL is that, THE TEXT is empty; all else stays");
        TriggerScopes x = new TriggerScopes();
        Twins.CRAMMED.tell(x);
        int[] setup = Checks.setupOf(x);
        due("signal()", x.signal(), 100);
        due("SAMPLES", x.count(0), 100);
        due("letters", x.count(7), 0);
        CHECKS.answers("setup", Checks.setupOf(x), setup);
        due("SEEN", x.count(6), 6);
        due("may be UNDONE", x.count(8), 10);
        due("image 0 stays", x.back(0), 2);
        CHECKS.answers("as kept", Checks.setupOf(x), setup);
        due("image 1 stays", x.back(1), 0);
        due("signal() of the text, which is empty now", x.signal(), 0);
        due("SAMPLES of an empty text", x.count(0), 0);
    }
}
