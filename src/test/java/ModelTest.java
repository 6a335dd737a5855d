import java.util.Arrays;
import java.util.Map;
import java.util.Random;
import java.util.TreeMap;

/** Long random runs, each call held against the model; the seed is fixed, so a failure comes again. */
public final class ModelTest {
    private static final int OBJECTS = 1500;
    private static final int CALLS = 512;
    private static final String[] CALL_NAMES = {
        "sample", "condition", "condition", "condition", "modes", "holds", "records", "undo", "fires", "fires",
        "trigger", "trigger", "record", "record", "mean", "joined", "measure", "measure", "alias", "sees", "forget",
        "unseen", "keep", "back", "told", "count"};
    private static final int[] WILD = {
        Integer.MIN_VALUE, Integer.MIN_VALUE + 1, -10, -2, -1, 0, 1, 2, 5, 6, 7, 9, 10, 15, 16, 17, 30, 31, 63, 64,
        65, 99, 100, 101, 255, 256, 299, 300, 301, 1 << 16, Integer.MAX_VALUE - 1, Integer.MAX_VALUE};

    private final Random random;
    private final Checks checks;
    private final Map<String, Integer> ordinary;
    private TriggerScopes scope = new TriggerScopes();
    private Model model = new Model();
    private int calls = 0;

    private ModelTest(long seed, Checks checks, Map<String, Integer> ordinary) {
        this.random = new Random(seed);
        this.checks = checks;
        this.ordinary = ordinary;
    }

    public static void main(String[] args) {
        Checks checks = new Checks();
        Map<String, Integer> ordinary = new TreeMap<>();
        for (int object = 0; object < OBJECTS && checks.wrong() == 0; object++) {
            new ModelTest(object, checks, ordinary).run();
        }
        // Runs in which nothing but refusals come would prove nothing.
        for (String name : CALL_NAMES) {
            checks.isTrue(name + " had ordinary answers: " + ordinary.get(name),
                    ordinary.getOrDefault(name, 0) > 1000);
        }
        checks.isTrue("texts were read: " + ordinary.get("signal"), ordinary.getOrDefault("signal", 0) > 1000);
        checks.end();
    }

    private void run() {
        while (calls < CALLS) {
            if (random.nextInt(40) == 0 || calls == 0) {
                tellText();
            }
            String name = CALL_NAMES[random.nextInt(CALL_NAMES.length)];
            if ((name.equals("forget") || name.equals("back")) && random.nextInt(3) != 0) {
                continue;
            }
            call(name, arguments(name));
        }
    }

    private void tellText() {
        String text = random.nextInt(4) == 0 ? spoiled(goodText()) : goodText();
        if (random.nextInt(3) != 0) {
            call("clear");
        }
        for (int i = 0; i < text.length(); i++) {
            call("type", text.charAt(i));
        }
        call("signal");
        call("count", 7);
        call("count", 0);
    }

    private String goodText() {
        StringBuilder text = new StringBuilder();
        int items = random.nextInt(9);
        int longest = random.nextBoolean() ? 5 : 30;
        for (int i = 0; i < items; i++) {
            blanks(text);
            text.append(random.nextInt(3) == 0 ? 'r' : 'l');
            blanks(text);
            text.append(random.nextInt(256));
            text.append(' ');
            blanks(text);
            text.append(1 + random.nextInt(longest));
            blanks(text);
            text.append(';');
        }
        if (random.nextInt(3) != 0) {
            text.append('x').append(1 + random.nextInt(longest == 5 ? 14 : 3)).append(';');
        }
        blanks(text);
        return text.toString();
    }

    private void blanks(StringBuilder text) {
        if (random.nextInt(6) == 0) {
            text.append("  ", 0, 1 + random.nextInt(2));
        }
    }

    private String spoiled(String text) {
        StringBuilder spoiled = new StringBuilder(text);
        String signs = "lrx;0159 \tLy\u00e9\u00ff\0";
        for (int i = 0; i <= random.nextInt(2) && spoiled.length() > 0; i++) {
            int place = random.nextInt(spoiled.length());
            char sign = signs.charAt(random.nextInt(signs.length()));
            switch (random.nextInt(4)) {
                case 0: spoiled.setCharAt(place, sign); break;
                case 1: spoiled.insert(place, sign); break;
                case 2: spoiled.deleteCharAt(place); break;
                default: spoiled.setLength(place); break;
            }
        }
        return spoiled.toString();
    }

    private int[] arguments(String name) {
        int[] most = mostOf(name);
        int[] numbers = new int[most.length];
        for (int i = 0; i < most.length; i++) {
            numbers[i] = random.nextInt(most[i] + 1);
        }
        if (name.equals("measure") && random.nextBoolean()) {
            numbers[1] = Math.max(0, model.call("count", new int[] {0}) - 1);
            numbers[0] = Math.min(numbers[0], numbers[1]);
        }
        if ((name.equals("trigger") || name.equals("record")) && random.nextInt(4) == 0) {
            numbers[0] = -1;
        }
        if (name.equals("record") && random.nextInt(4) == 0) {
            numbers[1] = -1;
        }
        if (numbers.length > 0 && random.nextInt(12) == 0) {
            numbers[random.nextInt(numbers.length)] = WILD[random.nextInt(WILD.length)];
        }
        return numbers;
    }

    private int[] mostOf(String name) {
        switch (name) {
            case "sample": return new int[] {200};
            case "condition": return new int[] {1, 5, 255, random.nextBoolean() ? 255 : 8, random.nextBoolean() ? 300 : 20};
            case "modes": return new int[] {2, random.nextBoolean() ? 300 : 12};
            case "holds": return new int[] {random.nextInt(4) == 0 ? 300 : 6};
            case "records": return new int[] {random.nextInt(3) == 0 ? 63 : 6, random.nextInt(3) == 0 ? 64 : 12};
            case "fires": return new int[] {1, 6};
            case "trigger": return new int[] {5};
            case "record": return new int[] {4, 6};
            case "mean": return new int[] {6, 2};
            case "joined": return new int[] {random.nextInt(4) == 0 ? 16 : 4, 6};
            case "measure": return new int[] {40, 200, 6};
            case "alias": return new int[] {random.nextBoolean() ? 16 : 4};
            case "sees": return new int[] {random.nextBoolean() ? 299 : 20, random.nextInt(4) == 0 ? 1 : 0};
            case "keep": case "back": return new int[] {1};
            case "told": return new int[] {1, 3};
            case "count": return new int[] {8};
            default: return new int[0];
        }
    }

    private void call(String name, int... n) {
        if (calls >= CALLS) {
            return;
        }
        calls++;
        int got = ask(name, n);
        if (got >= 0) {
            ordinary.merge(name, 1, Integer::sum);
        }
        checks.due(name + Arrays.toString(n) + " as call " + calls, got, model.call(name, n));
    }

    private int ask(String name, int[] n) {
        switch (name) {
            case "type": return scope.type(n[0]);
            case "clear": return scope.clear();
            case "signal": return scope.signal();
            case "sample": return scope.sample(n[0]);
            case "condition": return scope.condition(n[0], n[1], n[2], n[3], n[4]);
            case "modes": return scope.modes(n[0], n[1]);
            case "holds": return scope.holds(n[0]);
            case "records": return scope.records(n[0], n[1]);
            case "undo": return scope.undo();
            case "fires": return scope.fires(n[0], n[1]);
            case "trigger": return scope.trigger(n[0]);
            case "record": return scope.record(n[0], n[1]);
            case "mean": return scope.mean(n[0], n[1]);
            case "joined": return scope.joined(n[0], n[1]);
            case "measure": return scope.measure(n[0], n[1], n[2]);
            case "alias": return scope.alias(n[0]);
            case "sees": return scope.sees(n[0], n[1]);
            case "forget": return scope.forget();
            case "unseen": return scope.unseen();
            case "keep": return scope.keep(n[0]);
            case "back": return scope.back(n[0]);
            case "told": return scope.told(n[0], n[1]);
            case "count": return scope.count(n[0]);
            default: throw new IllegalArgumentException(name);
        }
    }
}
