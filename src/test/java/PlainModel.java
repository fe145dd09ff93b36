import java.math.BigInteger;
import java.util.ArrayDeque;
import java.util.ArrayList;
import java.util.Arrays;
import java.util.Comparator;
import java.util.Deque;
import java.util.HashSet;
import java.util.List;
import java.util.Set;
import java.util.regex.Matcher;
import java.util.regex.Pattern;

/**
 * The document told once more, in the plainest and slowest way, for RandomTest: whole states are
 * kept for undo, places are summed anew for every question, and every row of keys is tried.
 */
final class PlainModel {
    private static final int BAD = -1, STATE = -2, FULL = -3, NONE = -9, NO = -1000000;
    private static final int[][] LEANS = {{2, 0}, {1, 1}, {0, 2}, {-1, 1}, {-2, 0}, {-1, -1}, {0, -2}, {1, -1}};
    private static final Pattern TOKEN = Pattern.compile("[0-9]+|[^ ]", Pattern.DOTALL);

    private static final class State {
        final List<Integer> keys = new ArrayList<>();
        final int[][] wishes = new int[18][2];
        final int[] rules = {1, 0, 0};
        int taper = 1;

        State copied() {
            State copy = new State();
            copy.keys.addAll(keys);
            for (int i = 0; i < 18; i++) {
                copy.wishes[i] = wishes[i].clone();
            }
            System.arraycopy(rules, 0, copy.rules, 0, 3);
            copy.taper = taper;
            return copy;
        }

        int[] slope(List<Integer> row, int i) {
            int[] sum = new int[2];
            for (int r = 0; r < i; r++) {
                sum[0] += taper * LEANS[row.get(r)][0];
                sum[1] += taper * LEANS[row.get(r)][1];
            }
            return sum;
        }

        int[] place(List<Integer> row, int i) {
            int[] sum = new int[2];
            for (int r = 1; r <= i; r++) {
                sum[0] += slope(row, r)[0];
                sum[1] += slope(row, r)[1];
            }
            return sum;
        }

        int cost(List<Integer> row, int i) {
            int dx = Math.abs(place(row, i)[0] - wishes[i][0]);
            int dy = Math.abs(place(row, i)[1] - wishes[i][1]);
            return rules[1] == 0 ? dx + dy : rules[1] == 1 ? Math.max(dx, dy) : dx * dx + dy * dy;
        }

        boolean mayBeNext(List<Integer> row, int key) {
            int next = row.size() + 1;
            if (next > 1) {
                int last = row.get(row.size() - 1);
                Set<Integer> barred = new HashSet<>();
                if (rules[0] >= 1) {
                    barred.add(last);
                }
                if (rules[0] == 2) {
                    barred.add((last + 4) % 8);
                }
                if (rules[0] == 3) {
                    barred.add((last + 1) % 8);
                    barred.add((last + 7) % 8);
                }
                if (barred.contains(key)) {
                    return false;
                }
            }
            List<Integer> longer = with(row, key);
            for (int part = 0; part < 2 && rules[2] > 0; part++) {
                int aim = wishes[next][part] - wishes[next - 1][part];
                if (Math.abs(slope(longer, next)[part] - aim) > rules[2]) {
                    return false;
                }
            }
            return true;
        }
    }

    private State now = new State();
    private String text = "";
    private final Deque<State> before = new ArrayDeque<>();
    private final List<int[]> seen = new ArrayList<>();
    private final State[] images = new State[2];

    private static List<Integer> with(List<Integer> row, int key) {
        List<Integer> longer = new ArrayList<>(row);
        longer.add(key);
        return longer;
    }

    private static boolean out(int n, int least, int most) {
        return n < least || n > most;
    }

    private void remember() {
        before.addLast(now.copied());
        if (before.size() > 12) {
            before.removeFirst();
        }
    }

    int type(int letter) {
        if (out(letter, 0, 255)) {
            return BAD;
        }
        if (text.length() == 120) {
            return FULL;
        }
        text += (char) letter;
        return text.length();
    }

    int clear() {
        int had = text.length();
        text = "";
        return had;
    }

    /** The tokens, and the text's end as an empty one behind them. */
    private List<String> tokens(List<Integer> places) {
        List<String> found = new ArrayList<>();
        Matcher matcher = TOKEN.matcher(text);
        while (matcher.find()) {
            found.add(matcher.group());
            places.add(matcher.start());
        }
        found.add("");
        places.add(text.length());
        return found;
    }

    /** What may stand as a token is told by a small machine; its state is the shape read so far. */
    int tunnel() {
        List<Integer> places = new ArrayList<>();
        List<String> tokens = tokens(places);
        State told = new State();
        String shape = "";
        Set<String> once = new HashSet<>();
        List<Integer> numbers = new ArrayList<>();
        int items = 0;
        int wishes = 0;
        boolean minus = false;
        for (int i = 0; i < tokens.size(); i++) {
            String token = tokens.get(i);
            int fault = -10 - places.get(i);
            if (token.isEmpty()) {
                if (!shape.isEmpty()) {
                    return fault;
                }
                break;
            }
            if (token.matches("[0-9]+")) {
                if (!token.matches("0|[1-9][0-9]?") || !shape.matches("[tbjmk]|wn?-?|wn-?")) {
                    return fault;
                }
                int n = Integer.parseInt(token);
                if (!numberFits(told, shape, n)) {
                    return fault;
                }
                numbers.add(minus ? -n : n);
                minus = false;
                shape = shape.replace("-", "") + "n";
            } else if (token.equals("-")) {
                if (!shape.matches("wn?")) {
                    return fault;
                }
                minus = true;
                shape += "-";
            } else if (token.equals(";")) {
                if (!shape.matches("[tbjmk]n|wnn")) {
                    return fault;
                }
                finish(told, shape, numbers, wishes);
                items++;
                shape = "";
                numbers.clear();
            } else if (shape.isEmpty() && "tbjm".contains(token)) {
                if (!once.add(token) || !told.keys.isEmpty()) {
                    return fault;
                }
                shape = token;
            } else if (shape.isEmpty() && token.equals("w") && wishes < 17) {
                wishes++;
                shape = token;
            } else if (shape.isEmpty() && token.equals("k") && told.keys.size() < 12) {
                shape = token;
            } else {
                return fault;
            }
        }
        now = told;
        text = "";
        before.clear();
        seen.clear();
        Arrays.fill(images, null);
        return items;
    }

    private static boolean numberFits(State told, String shape, int n) {
        switch (shape.charAt(0)) {
            case 't': return !out(n, 1, 3);
            case 'b': return n <= 3;
            case 'j': return n <= 2;
            case 'm': return n <= 20;
            case 'k': return n <= 7 && told.mayBeNext(told.keys, n);
            default: return true;
        }
    }

    private static void finish(State told, String shape, List<Integer> numbers, int wishes) {
        int first = numbers.get(0);
        switch (shape.charAt(0)) {
            case 't': told.taper = first; break;
            case 'b': told.rules[0] = first; break;
            case 'j': told.rules[1] = first; break;
            case 'm': told.rules[2] = first; break;
            case 'k': told.keys.add(first); break;
            default: told.wishes[wishes] = new int[] {first, numbers.get(1)}; break;
        }
    }

    int builds(int key) {
        if (out(key, 0, 7)) {
            return BAD;
        }
        if (now.keys.size() == 12) {
            return FULL;
        }
        if (!now.mayBeNext(now.keys, key)) {
            return STATE;
        }
        remember();
        now.keys.add(key);
        return now.cost(now.keys, now.keys.size());
    }

    int follows(int h) {
        if (out(h, 1, 5)) {
            return BAD;
        }
        if (now.keys.size() == 12) {
            return FULL;
        }
        List<List<Integer>> rows = cheapest(h);
        if (rows.isEmpty()) {
            return STATE;
        }
        remember();
        int key = rows.get(0).get(now.keys.size());
        now.keys.add(key);
        return key;
    }

    int wishes(int place, int x, int y) {
        if (out(place, 1, 17) || out(x, -99, 99) || out(y, -99, 99)) {
            return BAD;
        }
        if (Arrays.equals(now.wishes[place], new int[] {x, y})) {
            return STATE;
        }
        remember();
        now.wishes[place] = new int[] {x, y};
        return 1;
    }

    int rules(int what, int v) {
        if (out(what, 0, 2) || out(v, 0, new int[] {3, 2, 20}[what])) {
            return BAD;
        }
        int was = now.rules[what];
        if (was == v) {
            return STATE;
        }
        remember();
        now.rules[what] = v;
        return was;
    }

    int undo() {
        if (before.isEmpty()) {
            return STATE;
        }
        now = before.removeLast();
        return before.size();
    }

    int ring(int i, int what) {
        if (out(i, 0, now.keys.size()) || out(what, 0, 5)) {
            return NO;
        }
        switch (what) {
            case 0: return i == 0 ? NONE : now.keys.get(i - 1);
            case 1: case 2: return now.slope(now.keys, i)[what - 1];
            case 3: case 4: return now.place(now.keys, i)[what - 3];
            default: return i == 0 ? 0 : now.cost(now.keys, i);
        }
    }

    int wish(int place, int what) {
        return out(place, 0, 17) || out(what, 0, 1) ? NO : now.wishes[place][what];
    }

    int worst(int k) {
        if (k < 0) {
            return BAD;
        }
        List<Integer> rings = new ArrayList<>();
        for (int i = 1; i <= now.keys.size(); i++) {
            rings.add(i);
        }
        rings.sort(Comparator.comparingInt(i -> -now.cost(now.keys, i)));
        return k < rings.size() ? rings.get(k) : NONE;
    }

    private int sum(List<Integer> row) {
        int sum = 0;
        for (int i = now.keys.size() + 1; i <= row.size(); i++) {
            sum += now.cost(row, i);
        }
        return sum;
    }

    /** All cheapest rows, the first one first; each has the built rings' keys ahead. */
    private List<List<Integer>> cheapest(int h) {
        List<List<Integer>> rows = new ArrayList<>();
        rows.add(now.keys);
        for (int i = 0; i < h; i++) {
            List<List<Integer>> longer = new ArrayList<>();
            for (List<Integer> row : rows) {
                for (int key = 0; key < 8; key++) {
                    if (now.mayBeNext(row, key)) {
                        longer.add(with(row, key));
                    }
                }
            }
            rows = longer;
        }
        List<List<Integer>> best = new ArrayList<>();
        int least = Integer.MAX_VALUE;
        for (List<Integer> row : rows) {
            int sum = sum(row);
            if (sum < least) {
                best.clear();
                least = sum;
            }
            if (sum == least) {
                best.add(row);
            }
        }
        return best;
    }

    int plan(int h, int k) {
        if (out(h, 1, 5) || k < -2) {
            return BAD;
        }
        List<List<Integer>> rows = cheapest(h);
        if (rows.isEmpty() || k >= h) {
            return NONE;
        }
        return k == -2 ? rows.size() : k == -1 ? sum(rows.get(0)) : rows.get(0).get(now.keys.size() + k);
    }

    int trying(int key) {
        if (out(key, 0, 7)) {
            return BAD;
        }
        if (!now.mayBeNext(now.keys, key)) {
            return STATE;
        }
        List<Integer> longer = with(now.keys, key);
        return now.cost(longer, longer.size());
    }

    int sees(int x, int y) {
        if (out(x, -9999, 9999) || out(y, -9999, 9999)) {
            return BAD;
        }
        if (seen.size() == 4) {
            return FULL;
        }
        seen.add(new int[] {x, y});
        return seen.size();
    }

    int forget() {
        int had = seen.size();
        seen.clear();
        return had;
    }

    int unseen(int i) {
        if (out(i, 1, now.keys.size())) {
            return BAD;
        }
        int bits = 0;
        for (int key = 0; key < 8; key++) {
            List<Integer> other = new ArrayList<>(now.keys);
            boolean own = other.set(i - 1, key) == key;
            int[] place = now.place(other, other.size());
            if (!own && seen.stream().allMatch(s -> Arrays.equals(s, place))) {
                bits += 1 << key;
            }
        }
        return bits;
    }

    int odds(int x, int c, int what) {
        if (out(x, 0, 10) || out(c, 0, 9999) || out(what, 0, 1)) {
            return BAD;
        }
        int n = now.keys.size();
        BigInteger upper = n == 0 ? BigInteger.ONE : near(new ArrayList<>(now.keys), Math.max(0, n - 8), x, c);
        BigInteger lower = BigInteger.TEN.pow(Math.min(n, 8));
        BigInteger common = upper.gcd(lower);
        return (what == 0 ? upper : lower).divide(common).intValueExact();
    }

    private BigInteger near(List<Integer> row, int from, int x, int c) {
        if (from == row.size()) {
            return now.cost(row, from) <= c ? BigInteger.ONE : BigInteger.ZERO;
        }
        BigInteger stays = near(row, from + 1, x, c);
        int key = row.get(from);
        row.set(from, key == 7 ? 0 : key + 1);
        BigInteger slips = near(row, from + 1, x, c);
        row.set(from, key);
        return stays.multiply(BigInteger.valueOf(10 - x)).add(slips.multiply(BigInteger.valueOf(x)));
    }

    int keep(int image) {
        if (out(image, 0, 1)) {
            return BAD;
        }
        images[image] = now.copied();
        return now.keys.size();
    }

    int back(int image) {
        if (out(image, 0, 1)) {
            return BAD;
        }
        if (images[image] == null) {
            return STATE;
        }
        now = images[image].copied();
        before.clear();
        return now.keys.size();
    }

    int count(int what) {
        switch (what) {
            case 0: return now.keys.size();
            case 1: return now.taper;
            case 2: case 3: case 4: return now.rules[what - 2];
            case 5: return bitsOfNext();
            case 6: return costOfAll();
            case 7: return seen.size();
            case 8: return text.length();
            case 9: return before.size();
            default: return BAD;
        }
    }

    private int bitsOfNext() {
        int bits = 0;
        for (int key = 0; key < 8; key++) {
            bits += now.mayBeNext(now.keys, key) ? 1 << key : 0;
        }
        return bits;
    }

    private int costOfAll() {
        int sum = 0;
        for (int i = 1; i <= now.keys.size(); i++) {
            sum += now.cost(now.keys, i);
        }
        return sum;
    }
}
