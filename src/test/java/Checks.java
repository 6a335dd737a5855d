import java.util.Arrays;

/** What the tests share: answers that are due, signals told in one call, and all of one kind that can be asked. */
final class Checks {
    private int made = 0;
    private int wrong = 0;
    private String sentence = "";

    /** The document's words that the checks from here on are about. */
    void sentence(String words) {
        sentence = words;
    }

    void due(String call, long got, long want) {
        made++;
        if (got != want) {
            wrong++;
            String about = sentence.isEmpty() ? "" : "[" + sentence + "] ";
            System.out.println(about + call + " answered " + got + ", due is " + want);
        }
    }

    void isTrue(String claim, boolean holds) {
        due(claim, holds ? 1 : 0, 1);
    }

    void answers(String what, int[] got, int... want) {
        due(what + ": how many", got.length, want.length);
        for (int i = 0; i < Math.min(got.length, want.length); i++) {
            due(what + " " + i, got[i], want[i]);
        }
    }

    int wrong() {
        return wrong;
    }

    void end() {
        System.out.println(wrong == 0 ? made + " checks passed" : wrong + " of " + made + " checks failed");
        if (wrong != 0) {
            System.exit(1);
        }
    }

    static void typeAll(TriggerScopes x, String text) {
        for (int i = 0; i < text.length(); i++) {
            x.type(text.charAt(i));
        }
    }

    /** Clears THE TEXT, types this one and reads it. */
    static int tell(TriggerScopes x, String text) {
        x.clear();
        typeAll(x, text);
        return x.signal();
    }

    static TriggerScopes scope(String text) {
        TriggerScopes x = new TriggerScopes();
        tell(x, text);
        return x;
    }

    /** A text of levels, one SAMPLE each. */
    static String levels(int... values) {
        StringBuilder text = new StringBuilder();
        for (int value : values) {
            text.append('l').append(value).append(" 1;");
        }
        return text.toString();
    }

    static int[] samplesOf(TriggerScopes x) {
        int[] samples = new int[Math.max(x.count(0), 0)];
        for (int k = 0; k < samples.length; k++) {
            samples[k] = x.sample(k);
        }
        return samples;
    }

    static int[] firesOf(TriggerScopes x, int c) {
        int[] found = new int[300];
        int many = 0;
        for (int place = x.fires(c, 0); many < 300 && place != TriggerScopes.NONE; place = x.fires(c, many)) {
            found[many] = place;
            many++;
        }
        return Arrays.copyOf(found, many);
    }

    /** Where a CONDITION of these numbers FIRES, told as B, since nothing else asks for B alone. */
    static int[] firesOf(int kind, int p, int q, int w, String text) {
        TriggerScopes x = scope(text);
        x.condition(1, kind, p, q, w);
        return firesOf(x, 1);
    }

    static int[] triggersOf(TriggerScopes x) {
        int[] triggers = new int[Math.max(x.trigger(-1), 0)];
        for (int k = 0; k < triggers.length; k++) {
            triggers[k] = x.trigger(k);
        }
        return triggers;
    }

    /** KIND, p, q, w of A and of B, MODE, SPAN, HOLD, PRE, LONG. */
    static int[] setupOf(TriggerScopes x) {
        int[] setup = new int[13];
        for (int i = 0; i < 8; i++) {
            setup[i] = x.told(i / 4, i % 4);
        }
        for (int i = 0; i < 5; i++) {
            setup[8 + i] = x.count(1 + i);
        }
        return setup;
    }
}
