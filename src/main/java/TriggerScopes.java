import java.util.ArrayList;

/** A scope's trigger board, as ../shared/DOC.md tells it; words in capitals there are the terms here. */
public final class TriggerScopes {
    public static final int BAD = -1, STATE = -2, FULL = -3, NONE = -9;

    private static final int MOST_LETTERS = 100;
    private static final int MOST_LETTER = 255;
    private static final int MOST_SAMPLES = 300;
    private static final int MOST_LEVEL = 255;
    private static final int MOST_REPEATS = 30;
    private static final int MOST_WIDTH = 300;
    private static final int MOST_SPAN = 300;
    private static final int MOST_HOLD = 300;
    private static final int MOST_PRE = 63;
    private static final int MOST_LONG = 64;
    private static final int MOST_SWEEPS = 16;
    private static final int MOST_UNDONE = 10;
    private static final int MOST_SEEN = 6;
    private static final int FAULT_BASE = -10;

    private static final int RISING = 0, FALLING = 1, RUNT = 2, WIDTH = 3, ENTERED = 4, LEFT = 5;
    private static final int KINDS = 6;
    private static final int ALONE = 0, BEHIND = 1, UNLESS = 2;

    private final Text text = new Text();
    private final Row samples = new Row(MOST_SAMPLES);
    private final Finder finder = new Finder();
    private final Row seenPlaces = new Row(MOST_SEEN);
    private final Row seenAnswers = new Row(MOST_SEEN);
    private final ArrayList<Setup> earlier = new ArrayList<Setup>();
    private Setup setup = firstSetup();
    private Setup image0 = null;
    private Setup image1 = null;

    public TriggerScopes() {
    }

    // ---- the signal

    public int type(int letter) {
        if (!isWithin(letter, 0, MOST_LETTER)) {
            return BAD;
        }
        if (text.letters.size() >= MOST_LETTERS) {
            return FULL;
        }
        text.letters.add(letter);
        return text.letters.size();
    }

    public int clear() {
        int letters = text.letters.size();
        text.letters.empty();
        return letters;
    }

    public int signal() {
        int fault = text.readSignal();
        if (fault != Text.NO_FAULT) {
            return FAULT_BASE - fault;
        }
        samples.copy(text.read);
        text.letters.empty();
        return samples.size();
    }

    public int sample(int k) {
        return samples.has(k) ? samples.at(k) : BAD;
    }

    // ---- what is done

    public int condition(int c, int kind, int p, int q, int w) {
        if (!isWithin(c, 0, 1) || !isWithin(kind, 0, KINDS - 1) || !isWithin(p, 0, MOST_LEVEL)
                || !isWithin(q, 0, MOST_LEVEL) || !isWithin(w, 0, MOST_WIDTH)) {
            return BAD;
        }
        Condition next = new Condition(kind, p, q, w);
        if (next.isLike(setup.conditionOf(c))) {
            return STATE;
        }
        change(setup.withCondition(c, next));
        return 1;
    }

    public int modes(int mode, int span) {
        if (!isWithin(mode, ALONE, UNLESS) || !isWithin(span, 1, MOST_SPAN)) {
            return BAD;
        }
        if (mode == setup.mode() && span == setup.span()) {
            return STATE;
        }
        change(setup.withModes(mode, span));
        return 1;
    }

    public int holds(int n) {
        if (!isWithin(n, 0, MOST_HOLD)) {
            return BAD;
        }
        int old = setup.hold();
        if (n == old) {
            return STATE;
        }
        change(setup.withHold(n));
        return old;
    }

    public int records(int pre, int length) {
        if (!isWithin(pre, 0, MOST_PRE) || !isWithin(length, 1, MOST_LONG)) {
            return BAD;
        }
        if (pre == setup.pre() && length == setup.length()) {
            return STATE;
        }
        change(setup.withRecords(pre, length));
        return 1;
    }

    public int undo() {
        int known = earlier.size();
        if (known == 0) {
            return STATE;
        }
        setup = earlier.remove(known - 1);
        return earlier.size();
    }

    // ---- triggers

    public int fires(int c, int k) {
        if (!isWithin(c, 0, 1) || k < 0) {
            return BAD;
        }
        Condition asked = setup.conditionOf(c);
        return placeOrNone(finder.findFires(asked, asked.kind(), samples), k);
    }

    public int trigger(int k) {
        if (k < -1) {
            return BAD;
        }
        Row triggers = finder.findTriggers(setup, samples);
        return k == -1 ? triggers.size() : placeOrNone(triggers, k);
    }

    public int record(int k, int j) {
        if (k < -1 || k >= 0 && !isWithin(j, -1, setup.length() - 1)) {
            return BAD;
        }
        Row recorded = finder.findRecorded(setup, samples);
        if (k == -1) {
            return recorded.size();
        }
        if (!recorded.has(k) || j == -1) {
            return placeOrNone(recorded, k);
        }
        return recordedSample(recorded, k, j);
    }

    public int mean(int j, int what) {
        if (!isWithin(j, 0, setup.length() - 1) || !isWithin(what, 0, 2)) {
            return BAD;
        }
        Row recorded = finder.findRecorded(setup, samples);
        // Sampled at every place by every RECORD, JOINED by 1 is the MEAN.
        return what == 0 ? averageOfSweeps(recorded, 1, j) : extremeAt(recorded, j, what == 2);
    }

    public int joined(int s, int j) {
        if (!isWithin(s, 1, MOST_SWEEPS) || !isWithin(j, 0, setup.length() - 1)) {
            return BAD;
        }
        return averageOfSweeps(finder.findRecorded(setup, samples), s, j);
    }

    // ---- measures

    public int measure(int a, int b, int what) {
        if (!samples.has(a) || !samples.has(b) || a > b || !isWithin(what, 0, 6)) {
            return BAD;
        }
        Measures measures = new Measures(samples, a, b);
        switch (what) {
            case 0:
                return measures.peak;
            case 1:
                return measures.dip;
            case 2:
                return measures.rises;
            default:
                return measures.rises < 2 ? NONE : fractionPart(measures, what);
        }
    }

    public int alias(int s) {
        if (!isWithin(s, 2, MOST_SWEEPS)) {
            return BAD;
        }
        return finder.findSlowTriggers(setup, samples, s).size();
    }

    // ---- which kind

    public int sees(int place, int is) {
        if (!isWithin(place, 0, MOST_SAMPLES - 1) || !isWithin(is, 0, 1)) {
            return BAD;
        }
        if (seenPlaces.size() >= MOST_SEEN) {
            return FULL;
        }
        seenPlaces.add(place);
        seenAnswers.add(is);
        return seenPlaces.size();
    }

    public int forget() {
        int seen = seenPlaces.size();
        seenPlaces.empty();
        seenAnswers.empty();
        return seen;
    }

    public int unseen() {
        int bits = 0;
        for (int kind = 0; kind < KINDS; kind++) {
            if (agreesWithSeen(kind)) {
                bits |= 1 << kind;
            }
        }
        return bits;
    }

    // ---- images

    public int keep(int image) {
        if (!isWithin(image, 0, 1)) {
            return BAD;
        }
        if (image == 0) {
            image0 = setup;
        } else {
            image1 = setup;
        }
        return setup.mode();
    }

    public int back(int image) {
        if (!isWithin(image, 0, 1)) {
            return BAD;
        }
        Setup kept = image == 0 ? image0 : image1;
        if (kept == null) {
            return STATE;
        }
        setup = kept;
        earlier.clear();
        return setup.mode();
    }

    public int told(int c, int what) {
        if (!isWithin(c, 0, 1)) {
            return BAD;
        }
        Condition asked = setup.conditionOf(c);
        switch (what) {
            case 0:
                return asked.kind();
            case 1:
                return asked.p();
            case 2:
                return asked.q();
            case 3:
                return asked.w();
            default:
                return BAD;
        }
    }

    public int count(int what) {
        switch (what) {
            case 0:
                return samples.size();
            case 1:
                return setup.mode();
            case 2:
                return setup.span();
            case 3:
                return setup.hold();
            case 4:
                return setup.pre();
            case 5:
                return setup.length();
            case 6:
                return seenPlaces.size();
            case 7:
                return text.letters.size();
            case 8:
                return earlier.size();
            default:
                return BAD;
        }
    }

    // ---- helpers

    private static Setup firstSetup() {
        Condition first = new Condition(RISING, 128, 120, 0);
        return new Setup(first, first, ALONE, 20, 0, 4, 16);
    }

    private static boolean isWithin(int value, int least, int most) {
        return value >= least && value <= most;
    }

    private static int placeOrNone(Row places, int k) {
        return places.has(k) ? places.at(k) : NONE;
    }

    private void change(Setup next) {
        if (earlier.size() >= MOST_UNDONE) {
            earlier.remove(0);
        }
        earlier.add(setup);
        setup = next;
    }

    private int recordedSample(Row recorded, int k, int j) {
        return samples.at(recorded.at(k) - setup.pre() + j);
    }

    private int averageOfSweeps(Row recorded, int s, int j) {
        int sum = 0;
        int sampled = 0;
        int step = Math.max(s, 1);
        for (int k = j % step; k < recorded.size(); k += step) {
            sum += recordedSample(recorded, k, j);
            sampled++;
        }
        return sampled == 0 ? NONE : sum / sampled;
    }

    private int extremeAt(Row recorded, int j, boolean greatest) {
        int extreme = NONE;
        for (int k = 0; k < recorded.size(); k++) {
            int value = recordedSample(recorded, k, j);
            if (k == 0 || (greatest ? value > extreme : value < extreme)) {
                extreme = value;
            }
        }
        return extreme;
    }

    private static int fractionPart(Measures measures, int what) {
        int places = measures.lastRise - measures.firstRise;
        boolean ofPeriod = what == 3 || what == 4;
        int upper = ofPeriod ? places : measures.highPlaces;
        int lower = ofPeriod ? measures.rises - 1 : places;
        int part = what == 3 || what == 5 ? upper : lower;
        return part / Math.max(greatestDivisor(upper, lower), 1);
    }

    private static int greatestDivisor(int a, int b) {
        int divisor = a;
        int rest = b;
        // Euclid's steps on numbers up to 300 are fewer than 20.
        for (int step = 0; step < 100 && rest != 0; step++) {
            int next = divisor % rest;
            divisor = rest;
            rest = next;
        }
        return divisor;
    }

    private boolean agreesWithSeen(int kind) {
        Row places = finder.findFires(setup.conditionOf(0), kind, samples);
        for (int i = 0; i < seenPlaces.size(); i++) {
            boolean seenFiring = seenAnswers.at(i) == 1;
            if (places.contains(seenPlaces.at(i)) != seenFiring) {
                return false;
            }
        }
        return true;
    }

    /** Numbers one behind the other, never more than its most: letters, SAMPLES, or places of SAMPLES. */
    private static final class Row {
        private final int[] values;
        private int size = 0;

        Row(int most) {
            values = new int[Math.max(most, 0)];
        }

        int size() {
            return size;
        }

        boolean has(int i) {
            return i >= 0 && i < size && i < values.length;
        }

        int at(int i) {
            return has(i) ? values[i] : 0;
        }

        void add(int value) {
            if (size >= 0 && size < values.length) {
                values[size] = value;
                size++;
            }
        }

        void empty() {
            size = 0;
        }

        void copy(Row other) {
            empty();
            for (int i = 0; i < other.size(); i++) {
                add(other.at(i));
            }
        }

        boolean contains(int value) {
            for (int i = 0; i < size; i++) {
                if (at(i) == value) {
                    return true;
                }
            }
            return false;
        }
    }

    /** THE TEXT, and its reading TOKEN by TOKEN. */
    private static final class Text {
        static final int NO_FAULT = -1;

        // Letters are 0 .. 255, so these two TOKENS are none of them.
        private static final int END = -1;
        private static final int NUMBER = -2;
        private static final int BADLY_WRITTEN = -1;
        // Above all that a NUMBER may be; rows of figures stay there, so that none wraps around.
        private static final int TOO_GREAT = 1000;

        private final Row letters = new Row(MOST_LETTERS);
        // Apart from THE SIGNAL, so that a text with a FAULT leaves that as it was.
        private final Row read = new Row(MOST_SAMPLES);
        private int next = 0;
        private int token = END;
        private int tokenPlace = 0;
        private int number = 0;

        Text() {
        }

        /** Answers the FAULT's place. */
        int readSignal() {
            read.empty();
            next = 0;
            goOn();
            for (int item = 0; item < MOST_LETTERS && token != END; item++) {
                if (!readItem()) {
                    // The END's place is the text's length: the FAULT of an ITEM that is not ended.
                    return tokenPlace;
                }
            }
            return NO_FAULT;
        }

        private boolean readItem() {
            int letter = token;
            if (letter != 'l' && letter != 'r' && letter != 'x') {
                return false;
            }
            goOn();
            int level = 0;
            if (letter != 'x') {
                if (!isNumber(0, MOST_LEVEL)) {
                    return false;
                }
                level = number;
                goOn();
            }
            if (!isNumber(1, letter == 'x' ? MOST_REPEATS : MOST_SAMPLES) || !hasRoom(letter, number)) {
                return false;
            }
            int n = number;
            goOn();
            if (token != ';') {
                return false;
            }
            goOn();
            tellItem(letter, level, n);
            return true;
        }

        private boolean isNumber(int least, int most) {
            return token == NUMBER && isWithin(number, least, most);
        }

        private boolean hasRoom(int letter, int n) {
            int more = letter == 'x' ? read.size() * n : n;
            return read.size() + more <= MOST_SAMPLES;
        }

        private void tellItem(int letter, int level, int n) {
            switch (letter) {
                case 'l':
                    // A level is a slope from itself.
                    tellSlope(level, level, n);
                    break;
                case 'r':
                    tellSlope(lastRead(), level, n);
                    break;
                default:
                    tellAgain(read.size() * n);
                    break;
            }
        }

        private int lastRead() {
            return read.size() == 0 ? 0 : read.at(read.size() - 1);
        }

        private void tellSlope(int from, int to, int n) {
            for (int k = 1; k <= n; k++) {
                read.add(from + (to - from) * k / Math.max(n, 1));
            }
        }

        private void tellAgain(int more) {
            for (int i = 0; i < more; i++) {
                read.add(read.at(i));
            }
        }

        private void goOn() {
            while (next < letters.size() && letters.at(next) == ' ') {
                next++;
            }
            tokenPlace = next;
            if (next >= letters.size()) {
                token = END;
            } else if (isFigure(letters.at(next))) {
                token = NUMBER;
                readNumber();
            } else {
                token = letters.at(next);
                next++;
            }
        }

        private void readNumber() {
            number = 0;
            while (next < letters.size() && isFigure(letters.at(next))) {
                number = Math.min(number * 10 + letters.at(next) - '0', TOO_GREAT);
                next++;
            }
            if (letters.at(tokenPlace) == '0' && next - tokenPlace > 1) {
                number = BADLY_WRITTEN;
            }
        }

        private static boolean isFigure(int letter) {
            return isWithin(letter, '0', '9');
        }
    }

    /** A CONDITION; never changed, so that setups may share it. */
    private record Condition(int kind, int p, int q, int w) {
        boolean isLike(Condition other) {
            return kind == other.kind && p == other.p && q == other.q && w == other.w;
        }

        boolean hasInWindow(int value) {
            return isWithin(value, Math.min(p, q), Math.max(p, q));
        }

        boolean isMetByPulse(int asKind, int width, int peak) {
            return asKind == RUNT ? peak < q : isWithin(width, q, w);
        }
    }

    /** All that is done and undone, kept and brought back; never changed, so that it is kept by holding it. */
    private record Setup(Condition a, Condition b, int mode, int span, int hold, int pre, int length) {
        Condition conditionOf(int c) {
            return c == 0 ? a : b;
        }

        Setup withCondition(int c, Condition next) {
            return new Setup(c == 0 ? next : a, c == 0 ? b : next, mode, span, hold, pre, length);
        }

        Setup withModes(int nextMode, int nextSpan) {
            return new Setup(a, b, nextMode, nextSpan, hold, pre, length);
        }

        Setup withHold(int nextHold) {
            return new Setup(a, b, mode, span, nextHold, pre, length);
        }

        Setup withRecords(int nextPre, int nextLength) {
            return new Setup(a, b, mode, span, hold, nextPre, nextLength);
        }
    }

    /** Finds where CONDITIONS FIRE and TRIGGERS are, in rows of its own that the next search uses again. */
    private static final class Finder {
        private final Row firesOfA = new Row(MOST_SAMPLES);
        private final Row firesOfB = new Row(MOST_SAMPLES);
        private final Row triggers = new Row(MOST_SAMPLES);
        private final Row recorded = new Row(MOST_SAMPLES);
        private final Row slowSamples = new Row(MOST_SAMPLES);

        Finder() {
        }

        /** The kind is told apart from the CONDITION, since UNSEEN asks for all of them. */
        Row findFires(Condition condition, int kind, Row samples) {
            fillFires(condition, kind, samples, firesOfA);
            return firesOfA;
        }

        Row findTriggers(Setup setup, Row samples) {
            fillFires(setup.a(), setup.a().kind(), samples, firesOfA);
            fillFires(setup.b(), setup.b().kind(), samples, firesOfB);
            triggers.empty();
            switch (setup.mode()) {
                case BEHIND:
                    findBehind(setup);
                    break;
                case UNLESS:
                    findUnless(setup);
                    break;
                default:
                    findAlone(setup);
                    break;
            }
            return triggers;
        }

        Row findSlowTriggers(Setup setup, Row samples, int s) {
            slowSamples.empty();
            for (int k = 0; k < samples.size(); k += Math.max(s, 1)) {
                slowSamples.add(samples.at(k));
            }
            return findTriggers(setup, slowSamples);
        }

        /** The TRIGGERS that give RECORDS. */
        Row findRecorded(Setup setup, Row samples) {
            findTriggers(setup, samples);
            recorded.empty();
            for (int i = 0; i < triggers.size(); i++) {
                int begin = triggers.at(i) - setup.pre();
                if (begin >= 0 && begin + setup.length() <= samples.size()) {
                    recorded.add(triggers.at(i));
                }
            }
            return recorded;
        }

        private void findAlone(Setup setup) {
            for (int i = 0; i < firesOfA.size(); i++) {
                addUnlessHeld(firesOfA.at(i), setup.hold());
            }
        }

        private void findBehind(Setup setup) {
            int ahead = 0;
            for (int i = 0; i < firesOfB.size(); i++) {
                int t = firesOfB.at(i);
                while (ahead < firesOfA.size() && firesOfA.at(ahead) < t) {
                    ahead++;
                }
                // The latest of those ahead of t is the nearest, so it alone decides.
                if (ahead > 0 && t - firesOfA.at(ahead - 1) <= setup.span()) {
                    addUnlessHeld(t, setup.hold());
                }
            }
        }

        private void findUnless(Setup setup) {
            int behind = 0;
            for (int i = 0; i < firesOfA.size(); i++) {
                int t = firesOfA.at(i);
                while (behind < firesOfB.size() && firesOfB.at(behind) <= t) {
                    behind++;
                }
                if (behind >= firesOfB.size() || firesOfB.at(behind) - t > setup.span()) {
                    addUnlessHeld(t, setup.hold());
                }
            }
        }

        private void addUnlessHeld(int t, int hold) {
            int found = triggers.size();
            if (found == 0 || t - triggers.at(found - 1) > hold) {
                triggers.add(t);
            }
        }

        private static void fillFires(Condition condition, int kind, Row samples, Row places) {
            places.empty();
            switch (kind) {
                case RISING:
                case FALLING:
                    fillEdges(condition, kind, samples, places);
                    break;
                case RUNT:
                case WIDTH:
                    fillPulses(condition, kind, samples, places);
                    break;
                case ENTERED:
                case LEFT:
                    fillCrossings(condition, kind, samples, places);
                    break;
                default:
                    break;
            }
        }

        private static void fillEdges(Condition condition, int kind, Row samples, Row places) {
            boolean armed = false;
            for (int k = 0; k < samples.size(); k++) {
                boolean high = samples.at(k) >= condition.p();
                boolean low = samples.at(k) <= condition.q();
                if (armed && (kind == RISING ? high : low)) {
                    places.add(k);
                    // The SAMPLE that fires does not arm, even where it is both high and low.
                    armed = false;
                } else if (kind == RISING ? low : high) {
                    armed = true;
                }
            }
        }

        private static void fillPulses(Condition condition, int kind, Row samples, Row places) {
            int begin = -1;
            int peak = 0;
            // From 1 on: a row that begins at SAMPLE 0 has none below p ahead of it, and is no PULSE.
            for (int k = 1; k < samples.size(); k++) {
                int value = samples.at(k);
                if (value < condition.p()) {
                    if (begin >= 0 && condition.isMetByPulse(kind, k - begin, peak)) {
                        places.add(k);
                    }
                    begin = -1;
                } else if (samples.at(k - 1) < condition.p()) {
                    begin = k;
                    peak = value;
                } else {
                    peak = Math.max(peak, value);
                }
            }
        }

        private static void fillCrossings(Condition condition, int kind, Row samples, Row places) {
            for (int k = 1; k < samples.size(); k++) {
                boolean before = condition.hasInWindow(samples.at(k - 1));
                boolean now = condition.hasInWindow(samples.at(k));
                if (before != now && now == (kind == ENTERED)) {
                    places.add(k);
                }
            }
        }
    }

    /** MEASURES from a GATE to another one. */
    private static final class Measures {
        private int peak;
        private int dip;
        private int rises = 0;
        private int firstRise = 0;
        private int lastRise = 0;
        private int highPlaces = 0;

        Measures(Row samples, int a, int b) {
            peak = samples.at(a);
            dip = samples.at(a);
            for (int k = a; k <= b && k < samples.size(); k++) {
                peak = Math.max(peak, samples.at(k));
                dip = Math.min(dip, samples.at(k));
            }
            int middle = (peak + dip) / 2;
            for (int k = a + 1; k <= b && k < samples.size(); k++) {
                if (samples.at(k) >= middle && samples.at(k - 1) < middle) {
                    firstRise = rises == 0 ? k : firstRise;
                    lastRise = k;
                    rises++;
                }
            }
            for (int k = firstRise; k < lastRise; k++) {
                highPlaces += samples.at(k) >= middle ? 1 : 0;
            }
        }
    }
}
