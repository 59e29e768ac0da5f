import java.math.BigInteger;
import java.nio.charset.StandardCharsets;
import java.util.ArrayDeque;
import java.util.ArrayList;
import java.util.Arrays;
import java.util.HashMap;
import java.util.List;
import java.util.Map;
import java.util.regex.Matcher;
import java.util.regex.Pattern;

/**
 * The document once more, by other means and slowly: every answer is worked out from who the people are,
 * one by one, with no table. It is there to be compared with.
 */
final class Model {
    private record One(String sort, int whom, int many) { }

    private record Day(int gone, int before) { }

    private record Kept(List<One> people, Day day) { }

    private static final int NONE = -1000000, BAD = -1000001, STATE = -1000002, FULL = -1000003;
    private static final List<String> KINDS = List.of("person", "true", "cross", "lot", "crowd", "moody");
    private static final Pattern TOKEN = Pattern.compile("[a-z]+|[0-9]+|[^ \\n]", Pattern.DOTALL);

    private final Object[] rows = new Object[8];
    private final StringBuilder tape = new StringBuilder();
    private List<One> people = null;
    private Day day = new Day(0, 0);
    private final ArrayDeque<Day> undone = new ArrayDeque<>();
    private final Kept[] kept = new Kept[2];
    private final List<Integer> trail = new ArrayList<>();
    private int fault = 0;
    private int finding = 0;

    // ---- rows: true arrays, whose lane is their type

    private static boolean out(int v, int least, int most) {
        return v < least || v > most;
    }

    private int found(int number) {
        finding = number;
        return -1000010 - number;
    }

    private int fine(int answer) {
        finding = 0;
        return answer;
    }

    private static int get(Object row, int i) {
        return ((Number) java.lang.reflect.Array.get(row, i)).intValue();
    }

    private static int length(Object row) {
        return java.lang.reflect.Array.getLength(row);
    }

    int row(int row, int lane, int n) {
        if (out(row, 0, 7) || out(lane, 0, 2) || n > 40) {
            return BAD;
        }
        if (n < 0) {
            return found(4);
        }
        rows[row] = lane == 0 ? new byte[n] : lane == 1 ? new short[n] : new int[n];
        return fine(n);
    }

    int set(int row, int i, int v) {
        if (out(row, 0, 7)) {
            return BAD;
        }
        Object items = rows[row];
        if (items == null) {
            return found(1);
        }
        if (i < 0 || i >= length(items)) {
            return found(2);
        }
        if (items instanceof byte[] b) {
            b[i] = (byte) v;
        } else if (items instanceof short[] s) {
            s[i] = (short) v;
        } else if (items instanceof int[] all) {
            all[i] = v;
        }
        return fine(get(items, i));
    }

    /** By what arraycopy itself throws. */
    int copy(int a, int i, int b, int j, int n) {
        if (out(a, 0, 7) || out(b, 0, 7)) {
            return BAD;
        }
        try {
            System.arraycopy(rows[a], i, rows[b], j, n);
            return fine(n);
        } catch (NullPointerException e) {
            return found(1);
        } catch (ArrayStoreException e) {
            return found(5);
        } catch (IndexOutOfBoundsException e) {
            return found(2);
        }
    }

    int drop(int row) {
        if (out(row, 0, 7)) {
            return BAD;
        }
        if (rows[row] == null) {
            return found(1);
        }
        int had = length(rows[row]);
        rows[row] = null;
        return fine(had);
    }

    // ---- texts

    int feed(long w, int n) {
        if (out(n, 1, 8)) {
            return BAD;
        }
        if (tape.length() + n > 300) {
            return FULL;
        }
        byte[] all = BigInteger.valueOf(w).and(BigInteger.ONE.shiftLeft(8 * n).subtract(BigInteger.ONE))
            .or(BigInteger.ONE.shiftLeft(8 * n)).toByteArray();
        tape.append(new String(Arrays.copyOfRange(all, all.length - n, all.length), StandardCharsets.ISO_8859_1));
        return tape.length();
    }

    int town() {
        String text = tape.toString();
        tape.setLength(0);
        List<String> tokens = new ArrayList<>();
        List<Integer> places = new ArrayList<>();
        Matcher m = TOKEN.matcher(text);
        while (m.find()) {
            tokens.add(m.group());
            places.add(m.start());
        }
        tokens.add("");
        places.add(text.length());
        List<One> read = new ArrayList<>();
        int at = 0;
        do {
            for (int part = 0; part < 5; part++) {
                int wrong = wrongAt(tokens.get(at + part), part, read.size());
                if (wrong != 0) {
                    fault = wrong;
                    return -1000100 - places.get(at + part);
                }
            }
            read.add(new One(tokens.get(at + 1), Integer.parseInt(tokens.get(at + 2)), Integer.parseInt(tokens.get(at + 3))));
            at += 5;
        } while (at < tokens.size() - 1);
        people = read;
        day = new Day(0, 0);
        undone.clear();
        return read.size();
    }

    private static int wrongAt(String token, int part, int before) {
        switch (part) {
            case 0: return !token.equals("person") ? 1 : before == 6 ? 3 : 0;
            case 1: return KINDS.indexOf(token) > 0 ? 0 : 1;
            case 4: return token.equals(";") ? 0 : 1;
            default:
                if (!token.matches("[0-9]{1,3}")) {
                    return 1;
                }
                return Integer.parseInt(token) > (part == 2 ? 5 : 9) ? 2 : 0;
        }
    }

    int fault() {
        return fault;
    }

    // ---- days

    private int size() {
        return people == null ? 0 : people.size();
    }

    private boolean noSet(int set) {
        return out(set, 0, (1 << size()) - 1);
    }

    private static boolean in(int set, int i) {
        return (set & 1 << i) != 0;
    }

    private boolean does(int i, int letter, int before) {
        One one = people.get(i);
        boolean told = in(letter, one.whom);
        int many = 0;
        for (int k = 0; k < size(); k++) {
            many += in(letter, k) ? 1 : 0;
        }
        switch (one.sort) {
            case "cross": return !told;
            case "crowd": return many >= one.many;
            case "moody": return told && in(before, i) || !told && !in(before, i);
            default: return told;
        }
    }

    private int outcome(int letter, int before) {
        int doers = 0;
        for (int i = 0; i < size(); i++) {
            doers += does(i, letter, before) ? 1 << i : 0;
        }
        return doers;
    }

    private List<Integer> agree(int before) {
        List<Integer> all = new ArrayList<>();
        for (int letter = 0; letter < 1 << size(); letter++) {
            if (outcome(letter, before) == letter) {
                all.add(letter);
            }
        }
        return all;
    }

    private void act(int doers) {
        undone.addLast(day);
        if (undone.size() > 24) {
            undone.removeFirst();
        }
        day = new Day(day.gone + 1, doers);
    }

    int post(int letter) {
        if (people == null) {
            return STATE;
        }
        if (noSet(letter)) {
            return BAD;
        }
        if (!agree(day.before).contains(letter)) {
            return STATE;
        }
        if (day.gone == 9999) {
            return FULL;
        }
        act(letter);
        return day.gone;
    }

    private int refusal(int row, int i, int n, int least, int most) {
        if (people == null) {
            return STATE;
        }
        if (out(row, 0, 7) || out(n, least, most)) {
            return BAD;
        }
        if (rows[row] == null) {
            return found(1);
        }
        if (i < 0 || (long) i + n > length(rows[row])) {
            return found(2);
        }
        for (int k = i; k < i + n; k++) {
            if (noSet(get(rows[row], k))) {
                return BAD;
            }
        }
        return 0;
    }

    int posts(int row, int i, int n) {
        int refused = refusal(row, i, n, 1, 24);
        if (refused != 0) {
            return refused;
        }
        if (day.gone + n > 9999) {
            return FULL;
        }
        int k = 0;
        while (k < n && post(get(rows[row], i + k)) > 0) {
            k++;
        }
        return fine(k);
    }

    int lots(int letter, int seed) {
        if (people == null) {
            return STATE;
        }
        if (noSet(letter) || out(seed, 1, 999999)) {
            return BAD;
        }
        if (day.gone == 9999) {
            return FULL;
        }
        BigInteger x = BigInteger.valueOf(seed);
        int doers = outcome(letter, day.before);
        for (int i = 0; i < size(); i++) {
            if (people.get(i).sort.equals("lot")) {
                x = x.multiply(BigInteger.valueOf(16807)).mod(BigInteger.valueOf(2147483647));
                if (x.mod(BigInteger.TEN).intValue() < people.get(i).many) {
                    doers = doers ^ 1 << i;
                }
            }
        }
        act(doers);
        return doers;
    }

    int undo() {
        if (undone.isEmpty()) {
            return STATE;
        }
        day = undone.removeLast();
        return undone.size();
    }

    int person(int person, int what) {
        if (out(person, 0, size() - 1) || out(what, 0, 2)) {
            return BAD;
        }
        One one = people.get(person);
        return what == 0 ? one.whom : what == 1 ? one.many : in(day.before, person) ? 1 : 0;
    }

    int done(int letter) {
        return people == null ? STATE : noSet(letter) ? BAD : outcome(letter, day.before);
    }

    // ---- foretold

    int agreeing(int i) {
        if (people == null) {
            return STATE;
        }
        List<Integer> all = agree(day.before);
        return i < -1 ? BAD : i == -1 ? all.size() : i < all.size() ? all.get(i) : NONE;
    }

    int fullest() {
        if (people == null) {
            return STATE;
        }
        return agree(day.before).stream()
            .max((a, b) -> a.equals(b) ? 0 : Integer.bitCount(a) != Integer.bitCount(b)
                ? Integer.compare(Integer.bitCount(a), Integer.bitCount(b)) : Integer.compare(b, a))
            .orElse(NONE);
    }

    /** Were one so that he does it always (1), never (0), or just if the letter has him (2). */
    private boolean someAgrees(int person, int how) {
        for (int letter = 0; letter < 1 << size(); letter++) {
            boolean all = true;
            for (int i = 0; i < size(); i++) {
                boolean does = i != person ? does(i, letter, day.before) : how == 2 ? in(letter, i) : how == 1;
                all &= does == in(letter, i);
            }
            if (all) {
                return true;
            }
        }
        return false;
    }

    int culprits(int what) {
        if (people == null) {
            return STATE;
        }
        if (out(what, 0, 1)) {
            return BAD;
        }
        int set = 0;
        for (int i = 0; i < size(); i++) {
            boolean one = what == 0 ? someAgrees(i, 2) : !someAgrees(i, 1) || !someAgrees(i, 0);
            set += one ? 1 << i : 0;
        }
        return set;
    }

    private long ways(int days, int before, Map<Integer, Long> known) {
        if (days == 0) {
            return 1;
        }
        int key = days * 64 + before;
        Long old = known.get(key);
        if (old != null) {
            return old;
        }
        long sum = 0;
        for (int letter : agree(before)) {
            sum += ways(days - 1, letter, known);
        }
        known.put(key, sum);
        return sum;
    }

    int chains(int n, int k) {
        if (people == null) {
            return STATE;
        }
        if (out(n, 1, 5) || k < -1) {
            return BAD;
        }
        Map<Integer, Long> known = new HashMap<>();
        if (k == -1) {
            return (int) ways(n, day.before, known);
        }
        if (k >= n || ways(n, day.before, known) == 0) {
            return NONE;
        }
        int last = day.before;
        for (int d = 0; d <= k; d++) {
            for (int letter : agree(last)) {
                if (ways(n - 1 - d, letter, known) > 0) {
                    last = letter;
                    break;
                }
            }
        }
        return last;
    }

    int breaks(int row, int i, int n) {
        int refused = refusal(row, i, n, 0, 40);
        if (refused != 0) {
            return refused;
        }
        int before = day.before;
        for (int k = 0; k < n; k++) {
            int letter = get(rows[row], i + k);
            if (outcome(letter, before) != letter) {
                return fine(k);
            }
            before = letter;
        }
        return fine(NONE);
    }

    /** Goes through all ways in which those by lot may turn, each with its odds in tenths. */
    private BigInteger odds(int letter, int set) {
        BigInteger sum = BigInteger.ZERO;
        for (int turned = 0; turned < 1 << size(); turned++) {
            BigInteger odds = BigInteger.ONE;
            for (int i = 0; i < size(); i++) {
                One one = people.get(i);
                int tenths = one.sort.equals("lot") ? one.many : 0;
                odds = odds.multiply(BigInteger.valueOf(in(turned, i) ? tenths : 10 - tenths));
            }
            if ((outcome(letter, day.before) ^ turned) == set) {
                sum = sum.add(odds);
            }
        }
        return sum;
    }

    int comes(int letter, int set, int what) {
        if (people == null) {
            return STATE;
        }
        if (noSet(letter) || noSet(set) || out(what, 0, 1)) {
            return BAD;
        }
        BigInteger above = odds(letter, set);
        BigInteger below = BigInteger.TEN.pow(size());
        return (what == 0 ? above : below).divide(above.gcd(below)).intValue();
    }

    int likeliest() {
        if (people == null) {
            return STATE;
        }
        int best = 0;
        for (int letter = 1; letter < 1 << size(); letter++) {
            if (odds(letter, letter).compareTo(odds(best, best)) > 0) {
                best = letter;
            }
        }
        return best;
    }

    int lost(int set, int what) {
        if (people == null) {
            return STATE;
        }
        if (noSet(set) || out(what, 0, 1)) {
            return BAD;
        }
        List<Integer> all = new ArrayList<>();
        for (int letter = 0; letter < 1 << size(); letter++) {
            if (outcome(letter, day.before) == set) {
                all.add(letter);
            }
        }
        return what == 0 ? all.size() : all.isEmpty() ? NONE : all.get(0);
    }

    int readBy(int set, int what) {
        if (people == null) {
            return STATE;
        }
        if (noSet(set) || out(what, 0, 1)) {
            return BAD;
        }
        List<Integer> all = new ArrayList<>();
        for (int letter = 0; letter < 1 << size(); letter++) {
            boolean agrees = true;
            for (int i = 0; i < size(); i++) {
                boolean does = in(set, i) ? does(i, letter, day.before) : in(day.before, i);
                agrees &= does == in(letter, i);
            }
            if (agrees) {
                all.add(letter);
            }
        }
        return what == 0 ? all.size() : all.isEmpty() ? NONE : all.get(0);
    }

    int image(int k) {
        if (out(k, 0, 1)) {
            return BAD;
        }
        if (people == null) {
            return STATE;
        }
        kept[k] = new Kept(List.copyOf(people), day);
        return 1;
    }

    int restore(int k) {
        if (out(k, 0, 1)) {
            return BAD;
        }
        if (kept[k] == null) {
            return STATE;
        }
        people = kept[k].people;
        day = kept[k].day;
        undone.clear();
        return 1;
    }

    // ---- asked: written out by kind, with no dispatch

    private int kindOf(int person) {
        return KINDS.indexOf(people.get(person).sort);
    }

    int kind(int person) {
        return out(person, 0, size() - 1) ? BAD : kindOf(person);
    }

    int as(int person, int kind) {
        if (out(person, 0, size() - 1) || out(kind, 0, 5)) {
            return BAD;
        }
        int own = kindOf(person);
        boolean is = kind == 0 || kind == own || kind == 1 && (own == 2 || own == 3) || kind == 4 && own == 5;
        return is ? fine(person) : found(3);
    }

    int ask(int person, int what) {
        if (out(person, 0, size() - 1) || out(what, 0, 1)) {
            return BAD;
        }
        trail.clear();
        int many = people.get(person).many;
        int sum = person + people.get(person).whom;
        switch (10 * kindOf(person) + what) {
            case 10: trail.addAll(List.of(11, 10, 21, 20)); return many + sum;
            case 11: trail.addAll(List.of(21, 20)); return sum;
            case 20: trail.addAll(List.of(12, 11, 10, 24, 21, 20)); return -(many + 2 * sum);
            case 21: trail.addAll(List.of(24, 21, 20)); return 2 * sum;
            case 30: trail.addAll(List.of(11, 10, 22, 21, 20)); return many + sum - 1000;
            case 31: trail.addAll(List.of(22, 21, 20)); return sum - 1000;
            case 40: trail.addAll(List.of(13, 10)); return many - 100;
            case 41: trail.addAll(List.of(23, 20, 13, 10)); return person - (many - 100);
            case 50: trail.addAll(List.of(14, 13, 10)); return 2 * (many - 100);
            default: trail.addAll(List.of(23, 20, 14, 13, 10)); return person - 2 * (many - 100);
        }
    }

    int trace(int i) {
        return i < 0 || i >= trail.size() ? NONE : trail.get(i);
    }

    int count(int what) {
        switch (what) {
            case 0:
                int many = 0;
                for (Object row : rows) {
                    many += row == null ? 0 : 1;
                }
                return many;
            case 1: return size();
            case 2: return day.gone;
            case 3: return day.before;
            case 4: return undone.size();
            case 5: return tape.length();
            default: return BAD;
        }
    }

    int status() {
        return finding;
    }
}
