/** What the tests share: answers that are due, and signals told in one call. */
final class Checks {
    private int made = 0;
    private int wrong = 0;

    void due(String call, long got, long want) {
        made++;
        if (got != want) {
            wrong++;
            System.out.println(call + " answered " + got + ", due is " + want);
        }
    }

    void isTrue(String claim, boolean holds) {
        due(claim, holds ? 1 : 0, 1);
    }

    int wrong() {
        return wrong;
    }

    void end() {
        System.out.println(wrong == 0 ? made + " checks passed" : wrong + " of " + made + " checks failed");
        if (wrong != 0) {
            System.exit(1);
        }
    }

    static void typeAll(TriggerScopes x, String text) {
        for (int i = 0; i < text.length(); i++) {
            x.type(text.charAt(i));
        }
    }

    /** Clears THE TEXT, types this one and reads it. */
    static int tell(TriggerScopes x, String text) {
        x.clear();
        typeAll(x, text);
        return x.signal();
    }

    static TriggerScopes scope(String text) {
        TriggerScopes x = new TriggerScopes();
        tell(x, text);
        return x;
    }

    /** A text of levels, one SAMPLE each. */
    static String levels(int... values) {
        StringBuilder text = new StringBuilder();
        for (int value : values) {
            text.append('l').append(value).append(" 1;");
        }
        return text.toString();
    }
}
