import java.util.ArrayList;
import java.util.Arrays;
import java.util.List;
import java.util.TreeSet;
import java.util.regex.Matcher;
import java.util.regex.Pattern;

/** The document's words as they stand, slow and without regard for room: what the class is held against. */
final class Model {
    private static final int MODE = 8, SPAN = 9, HOLD = 10, PRE = 11, LONG = 12;
    private static final Pattern TOKEN = Pattern.compile("[0-9]+|[^ ]", Pattern.DOTALL);

    private String text = "";
    private int[] samples = {};
    /** A's KIND, p, q, w; B's; MODE, SPAN, HOLD, PRE, LONG. */
    private int[] setup = {0, 128, 120, 0, 0, 128, 120, 0, 0, 20, 0, 4, 16};
    private final List<int[]> earlier = new ArrayList<>();
    private final int[][] images = new int[2][];
    private final List<int[]> seen = new ArrayList<>();

    /** The calls by name, so that a run can be told as a text. */
    int call(String name, int[] n) {
        switch (name) {
            case "type": return type(n[0]);
            case "clear": return clear();
            case "signal": return signal();
            case "sample": return n[0] < 0 || n[0] >= samples.length ? -1 : samples[n[0]];
            case "condition": return condition(n);
            case "modes": return done(MODE, new int[] {n[0], n[1]}, new int[] {0, 1}, new int[] {2, 300});
            case "holds": return holds(n[0]);
            case "records": return done(PRE, new int[] {n[0], n[1]}, new int[] {0, 1}, new int[] {63, 64});
            case "undo": return undo();
            case "fires": return fires(n[0], n[1]);
            case "trigger": return trigger(n[0]);
            case "record": return record(n[0], n[1]);
            case "mean": return mean(n[0], n[1]);
            case "joined": return joined(n[0], n[1]);
            case "measure": return measure(n[0], n[1], n[2]);
            case "alias": return alias(n[0]);
            case "sees": return sees(n[0], n[1]);
            case "forget": return forget();
            case "unseen": return unseen();
            case "keep": return keep(n[0]);
            case "back": return back(n[0]);
            case "told": return n[0] < 0 || n[0] > 1 || n[1] < 0 || n[1] > 3 ? -1 : setup[n[0] * 4 + n[1]];
            case "count": return count(n[0]);
            default: throw new IllegalArgumentException(name);
        }
    }

    private int type(int letter) {
        if (letter < 0 || letter > 255) {
            return -1;
        }
        if (text.length() == 100) {
            return -3;
        }
        text += (char) letter;
        return text.length();
    }

    private int clear() {
        int had = text.length();
        text = "";
        return had;
    }

    private int signal() {
        List<Integer> told = new ArrayList<>();
        Matcher tokens = TOKEN.matcher(text);
        String item = "";
        int v = 0;
        int n = 0;
        while (tokens.find()) {
            String token = tokens.group();
            boolean number = Character.digit(token.charAt(0), 10) >= 0 && token.charAt(0) < 128;
            int value = !number || token.length() > 3 || token.matches("0.+") ? -1 : Integer.parseInt(token);
            boolean good;
            switch (item) {
                case "":
                    good = token.matches("[lrx]");
                    item = token;
                    break;
                case "l": case "r":
                    good = value >= 0 && value <= 255;
                    v = value;
                    item += "V";
                    break;
                case "lV": case "rV":
                    good = value >= 1 && value <= 300 && told.size() + value <= 300;
                    n = value;
                    item += "N";
                    break;
                case "x":
                    good = value >= 1 && value <= 30 && told.size() * (value + 1) <= 300;
                    n = value;
                    item += "N";
                    break;
                default:
                    good = token.equals(";");
                    tellItem(told, item.charAt(0), v, n);
                    item = "";
                    break;
            }
            if (!good) {
                return -10 - tokens.start();
            }
        }
        if (!item.isEmpty()) {
            return -10 - text.length();
        }
        samples = told.stream().mapToInt(Integer::intValue).toArray();
        text = "";
        return samples.length;
    }

    private static void tellItem(List<Integer> told, char letter, int v, int n) {
        if (letter == 'x') {
            List<Integer> once = new ArrayList<>(told);
            for (int i = 0; i < n; i++) {
                told.addAll(once);
            }
            return;
        }
        int c = told.isEmpty() ? 0 : told.get(told.size() - 1);
        for (int k = 1; k <= n; k++) {
            told.add(letter == 'l' ? v : c + (v - c) * k / n);
        }
    }

    private int condition(int[] n) {
        if (n[0] < 0 || n[0] > 1) {
            return -1;
        }
        return done(n[0] * 4, Arrays.copyOfRange(n, 1, 5), new int[] {0, 0, 0, 0}, new int[] {5, 255, 255, 300});
    }

    private int holds(int n) {
        int was = setup[HOLD];
        int answer = done(HOLD, new int[] {n}, new int[] {0}, new int[] {300});
        return answer == 1 ? was : answer;
    }

    private int done(int from, int[] numbers, int[] least, int[] most) {
        for (int i = 0; i < numbers.length; i++) {
            if (numbers[i] < least[i] || numbers[i] > most[i]) {
                return -1;
            }
        }
        if (Arrays.equals(numbers, Arrays.copyOfRange(setup, from, from + numbers.length))) {
            return -2;
        }
        earlier.add(setup.clone());
        System.arraycopy(numbers, 0, setup, from, numbers.length);
        return 1;
    }

    /** Older ones than the latest ten are lost: counted by how many were undone since the last done. */
    private int known() {
        while (earlier.size() > 10) {
            earlier.remove(0);
        }
        return earlier.size();
    }

    private int undo() {
        if (known() == 0) {
            return -2;
        }
        setup = earlier.remove(earlier.size() - 1);
        return known();
    }

    private static TreeSet<Integer> firing(int[] s, int kind, int p, int q, int w) {
        TreeSet<Integer> fired = new TreeSet<>();
        for (int k = 0; k < s.length; k++) {
            if (firesAt(s, k, fired, new int[] {kind, p, q, w})) {
                fired.add(k);
            }
        }
        return fired;
    }

    private static boolean firesAt(int[] s, int k, TreeSet<Integer> fired, int[] c) {
        int kind = c[0];
        int p = c[1];
        int q = c[2];
        int w = c[3];
        int v = s[k];
        if (kind == 0 || kind == 1) {
            boolean between = false;
            for (int i = fired.isEmpty() ? 0 : fired.last() + 1; i < k; i++) {
                between |= kind == 0 ? s[i] <= q : s[i] >= p;
            }
            return between && (kind == 0 ? v >= p : v <= q);
        }
        if (kind == 2 || kind == 3) {
            if (v >= p) {
                return false;
            }
            int begin = k;
            int tall = 0;
            while (begin > 0 && s[begin - 1] >= p) {
                begin--;
                tall += s[begin] >= q ? 1 : 0;
            }
            int width = k - begin;
            return begin > 0 && width > 0 && (kind == 2 ? tall == 0 : width >= q && width <= w);
        }
        if (k == 0) {
            return false;
        }
        boolean now = v >= Math.min(p, q) && v <= Math.max(p, q);
        boolean ahead = s[k - 1] >= Math.min(p, q) && s[k - 1] <= Math.max(p, q);
        return kind == 4 ? now && !ahead : !now && ahead;
    }

    private TreeSet<Integer> firing(int[] s, int c) {
        return firing(s, setup[c * 4], setup[c * 4 + 1], setup[c * 4 + 2], setup[c * 4 + 3]);
    }

    private int fires(int c, int k) {
        if (c < 0 || c > 1 || k < 0) {
            return -1;
        }
        return nth(new ArrayList<>(firing(samples, c)), k);
    }

    private static int nth(List<Integer> places, int k) {
        return k < places.size() ? places.get(k) : -9;
    }

    private List<Integer> triggers(int[] s) {
        TreeSet<Integer> a = firing(s, 0);
        TreeSet<Integer> b = firing(s, 1);
        List<Integer> triggers = new ArrayList<>();
        for (int t = 0; t < s.length; t++) {
            boolean comes = a.contains(t);
            if (setup[MODE] == 1) {
                comes = b.contains(t) && !a.subSet(t - setup[SPAN], true, t - 1, true).isEmpty();
            } else if (setup[MODE] == 2) {
                comes = a.contains(t) && b.subSet(t + 1, true, t + setup[SPAN], true).isEmpty();
            }
            if (comes && (triggers.isEmpty() || t > triggers.get(triggers.size() - 1) + setup[HOLD])) {
                triggers.add(t);
            }
        }
        return triggers;
    }

    private int trigger(int k) {
        if (k < -1) {
            return -1;
        }
        return k == -1 ? triggers(samples).size() : nth(triggers(samples), k);
    }

    /** Each RECORD: its TRIGGER, then its places. */
    private List<int[]> allRecords() {
        List<int[]> all = new ArrayList<>();
        for (int t : triggers(samples)) {
            int[] record = new int[setup[LONG] + 1];
            record[0] = t;
            boolean whole = true;
            for (int j = 0; j < setup[LONG]; j++) {
                int place = t - setup[PRE] + j;
                whole &= place >= 0 && place < samples.length;
                record[j + 1] = whole ? samples[place] : 0;
            }
            if (whole) {
                all.add(record);
            }
        }
        return all;
    }

    private int record(int k, int j) {
        if (k < -1 || k >= 0 && (j < -1 || j >= setup[LONG])) {
            return -1;
        }
        List<int[]> all = allRecords();
        return k == -1 ? all.size() : k < all.size() ? all.get(k)[j + 1] : -9;
    }

    private int mean(int j, int what) {
        if (j < 0 || j >= setup[LONG] || what < 0 || what > 2) {
            return -1;
        }
        int[] there = allRecords().stream().mapToInt(r -> r[j + 1]).sorted().toArray();
        if (there.length == 0) {
            return -9;
        }
        int[] answers = {Arrays.stream(there).sum() / there.length, there[0], there[there.length - 1]};
        return answers[what];
    }

    private int joined(int s, int j) {
        if (s < 1 || s > 16 || j < 0 || j >= setup[LONG]) {
            return -1;
        }
        List<int[]> all = allRecords();
        int sum = 0;
        int many = 0;
        for (int k = 0; k < all.size(); k++) {
            if (j % s == k % s) {
                sum += all.get(k)[j + 1];
                many++;
            }
        }
        return many == 0 ? -9 : sum / many;
    }

    private int measure(int a, int b, int what) {
        if (a < 0 || b >= samples.length || a > b || what < 0 || what > 6) {
            return -1;
        }
        int[] within = Arrays.copyOfRange(samples, a, b + 1);
        int peak = Arrays.stream(within).max().getAsInt();
        int dip = Arrays.stream(within).min().getAsInt();
        int middle = (peak + dip) / 2;
        List<Integer> rises = new ArrayList<>();
        for (int i = 1; i < within.length; i++) {
            if (within[i] >= middle && within[i - 1] < middle) {
                rises.add(i);
            }
        }
        if (what < 3) {
            return new int[] {peak, dip, rises.size()}[what];
        }
        if (rises.size() < 2) {
            return -9;
        }
        int first = rises.get(0);
        int last = rises.get(rises.size() - 1);
        int high = (int) Arrays.stream(within, first, last).filter(v -> v >= middle).count();
        int upper = what < 5 ? last - first : high;
        int lower = what < 5 ? rises.size() - 1 : last - first;
        for (int d = 300; d > 1; d--) {
            if (upper % d == 0 && lower % d == 0) {
                upper /= d;
                lower /= d;
            }
        }
        return what % 2 == 1 ? upper : lower;
    }

    private int alias(int s) {
        if (s < 2 || s > 16) {
            return -1;
        }
        int[] slow = new int[(samples.length + s - 1) / s];
        for (int i = 0; i < slow.length; i++) {
            slow[i] = samples[i * s];
        }
        return triggers(slow).size();
    }

    private int sees(int place, int is) {
        if (place < 0 || place > 299 || is < 0 || is > 1) {
            return -1;
        }
        if (seen.size() == 6) {
            return -3;
        }
        seen.add(new int[] {place, is});
        return seen.size();
    }

    private int forget() {
        int was = seen.size();
        seen.clear();
        return was;
    }

    private int unseen() {
        int bits = 0;
        for (int kind = 0; kind < 6; kind++) {
            TreeSet<Integer> fired = firing(samples, kind, setup[1], setup[2], setup[3]);
            if (seen.stream().allMatch(s -> fired.contains(s[0]) == (s[1] == 1))) {
                bits += 1 << kind;
            }
        }
        return bits;
    }

    private int keep(int image) {
        if (image < 0 || image > 1) {
            return -1;
        }
        images[image] = setup.clone();
        return setup[MODE];
    }

    private int back(int image) {
        if (image < 0 || image > 1) {
            return -1;
        }
        if (images[image] == null) {
            return -2;
        }
        setup = images[image].clone();
        earlier.clear();
        return setup[MODE];
    }

    private int count(int what) {
        if (what < 0 || what > 8) {
            return -1;
        }
        int[] counts = {samples.length, setup[MODE], setup[SPAN], setup[HOLD], setup[PRE], setup[LONG],
            seen.size(), text.length(), known()};
        return counts[what];
    }
}
