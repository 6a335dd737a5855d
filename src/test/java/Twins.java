import java.util.ArrayList;
import java.util.List;

/**
 * Holds an object that has heard a call against one that has not: by all that can be asked, and by what comes of
 * undoing, of the images, of THE TEXT and of what was SEEN, which can be told only by using them up.
 */
final class Twins {
    interface Story {
        void tell(TriggerScopes x);
    }

    interface Call {
        int on(TriggerScopes x);
    }

    interface CallOf {
        int on(TriggerScopes x, int number);
    }

    private interface Probe {
        void ask(TriggerScopes x, List<Integer> answers);
    }

    static final Story NEW = x -> { };
    static final Story BUSY = Twins::busy;
    static final Story CRAMMED = Twins::crammed;
    private static final Story[] STORIES = {NEW, BUSY, CRAMMED};
    // Each is used on objects of its own, so that no object hears more than 512 calls.
    private static final Probe[] PROBES = {
        Twins::askSamples, Twins::askAll, Twins::undoAll, Twins::bringBack, Twins::readText, Twins::lookAtSeen};

    private final Checks checks;

    Twins(Checks checks) {
        this.checks = checks;
    }

    /** Some of everything: 35 SAMPLES, half a text, 5 that may be UNDONE, 3 SEEN, both IMAGES. */
    private static void busy(TriggerScopes x) {
        Checks.tell(x, "l0 2;l200 2;l90 1;x6;");
        x.condition(1, 1, 128, 120, 3);
        x.modes(1, 30);
        x.keep(0);
        x.holds(2);
        x.records(1, 3);
        x.keep(1);
        x.condition(0, 0, 100, 80, 1);
        x.sees(2, 1);
        x.sees(6, 0);
        x.sees(299, 0);
        Checks.typeAll(x, "l7 3;r9");
    }

    /** As much as there can be: 300 SAMPLES, 100 letters, 10 that may be UNDONE (and 3 that are lost), 6 SEEN. */
    private static void crammed(TriggerScopes x) {
        Checks.tell(x, "l0 2;l200 2;l90 1;x29;x1;");
        x.keep(1);
        for (int n = 1; n <= 9; n++) {
            x.holds(n);
        }
        x.condition(0, 3, 60, 1, 300);
        x.condition(1, 5, 100, 150, 0);
        x.records(63, 64);
        x.modes(2, 1);
        x.keep(0);
        for (int place = 10; place < 15; place++) {
            x.sees(place, 0);
        }
        x.sees(299, 0);
        Checks.typeAll(x, "l1 1;r9 9;".repeat(10));
    }

    void changesNothing(String name, Story story, int want, Call call) {
        for (Probe probe : PROBES) {
            TriggerScopes heard = new TriggerScopes();
            story.tell(heard);
            checks.due(name, call.on(heard), want);
            TriggerScopes other = new TriggerScopes();
            story.tell(other);
            checks.isTrue(name + " leaves all as it was", answersOf(probe, heard).equals(answersOf(probe, other)));
        }
    }

    /** Refused as BAD whatever has been told. */
    void bad(String name, Call call) {
        for (Story story : STORIES) {
            changesNothing(name, story, TriggerScopes.BAD, call);
        }
    }

    /** The first number that is not allowed on either side, and the ones furthest off. */
    void badOutside(String name, int least, int most, CallOf call) {
        for (int number : new int[] {Integer.MIN_VALUE, least - 1, most + 1, Integer.MAX_VALUE}) {
            bad(name + " " + number, x -> call.on(x, number));
        }
    }

    /** What is asked changes nothing, and answers the same again. */
    void onlyAsks(String name, Call call) {
        for (Story story : STORIES) {
            TriggerScopes x = new TriggerScopes();
            story.tell(x);
            int answer = call.on(x);
            checks.due(name + ", asked again", call.on(x), answer);
            changesNothing(name, story, answer, call);
        }
    }

    private static List<Integer> answersOf(Probe probe, TriggerScopes x) {
        List<Integer> answers = new ArrayList<>();
        probe.ask(x, answers);
        return answers;
    }

    private static void addAll(List<Integer> answers, int[] more) {
        for (int answer : more) {
            answers.add(answer);
        }
    }

    private static void askSamples(TriggerScopes x, List<Integer> answers) {
        addAll(answers, Checks.samplesOf(x));
    }

    private static void askAll(TriggerScopes x, List<Integer> answers) {
        addAll(answers, Checks.setupOf(x));
        for (int what = 0; what <= 8; what++) {
            answers.add(x.count(what));
        }
        for (int k = 0; k < 12; k++) {
            answers.add(x.fires(0, k));
            answers.add(x.fires(1, k));
            answers.add(x.trigger(k - 1));
            answers.add(x.record(k - 1, -1));
            answers.add(x.record(0, k));
            answers.add(x.mean(k, k % 3));
            answers.add(x.joined(1 + k, k));
            answers.add(x.measure(k, x.count(0) - 1, k % 7));
            answers.add(x.alias(2 + k));
        }
        answers.add(x.unseen());
    }

    private static void undoAll(TriggerScopes x, List<Integer> answers) {
        for (int i = 0; i < 12; i++) {
            answers.add(x.undo());
            addAll(answers, Checks.setupOf(x));
        }
    }

    private static void bringBack(TriggerScopes x, List<Integer> answers) {
        for (int image = 0; image <= 1; image++) {
            answers.add(x.back(image));
            addAll(answers, Checks.setupOf(x));
        }
    }

    private static void readText(TriggerScopes x, List<Integer> answers) {
        answers.add(x.signal());
        // Ends what was begun, as far as it can be, so that its numbers show.
        Checks.typeAll(x, " 2;");
        answers.add(x.signal());
        addAll(answers, java.util.Arrays.copyOf(Checks.samplesOf(x), 110));
        answers.add(x.clear());
    }

    private static void lookAtSeen(TriggerScopes x, List<Integer> answers) {
        Checks.tell(x, "r255 255;");
        for (int level = 2; level <= 24; level++) {
            // On this slope the window of one level is ENTERED at the place below the level, and LEFT at it.
            x.condition(0, 4, level, level, 0);
            answers.add(x.unseen());
        }
        for (int i = 0; i < 7; i++) {
            answers.add(x.sees(299, 0));
        }
        answers.add(x.forget());
    }
}
