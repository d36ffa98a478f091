import java.math.BigInteger;
import java.util.ArrayList;
import java.util.Arrays;
import java.util.HashMap;
import java.util.List;
import java.util.Map;
import java.util.TreeMap;
import java.util.regex.Matcher;
import java.util.regex.Pattern;

/**
 * The document once more, written plainly and apart from the class: nothing is kept but what was
 * told, and each answer is worked out anew, by big numbers.
 */
public final class Model {
    private static final String[] WORDS = {"wind", "stream", "lee", "land", "miss"};
    private static final int[][][] LIMITS = {
        {{0, 71}, {-30, 30}, {-30, 30}},
        {{0, 3}, {0, 71}, {-30, 30}, {-30, 30}},
        {{0, 3}, {0, 100}},
        {{0, 7}, {0, 7}},
        {{0, 1}, {1, 20}, {0, 100}}};
    private static final int[] KEYS = {1, 2, 1, 2, 2};
    private static final Pattern RUN = Pattern.compile("[a-z]+|-?[0-9]+[a-z]*|;");
    private static final Pattern TOKEN = Pattern.compile("[a-z]{1,8}|-?[0-9]{1,3}|;");

    /** By word and the numbers that tell which: the numbers behind those. */
    private TreeMap<String, int[]> facts = new TreeMap<>();
    private final Map<String, int[]> known = new HashMap<>();
    private final StringBuilder tape = new StringBuilder();
    private final List<int[]> tales = new ArrayList<>();
    private final List<int[]> proofs = new ArrayList<>();
    private final List<Boolean> standing = new ArrayList<>();
    private int fault = 0;
    private int faultAt = -1;

    public int feed(int... numbers) {
        if (tape.length() + 20 > 1000) {
            return -1;
        }
        for (int number : numbers) {
            for (int i = 3; i >= 0; i--) {
                tape.append((char) (number >>> 8 * i & 255));
            }
        }
        return tape.length();
    }

    public int end(int n) {
        if (n < 0 || n > tape.length()) {
            return -1;
        }
        tape.setLength(n);
        return n;
    }

    public int sea() {
        String text = tape.toString();
        tape.setLength(0);
        fault = 0;
        faultAt = -1;
        TreeMap<String, int[]> told = new TreeMap<>();
        int at = skip(text, 0);
        while (at < text.length()) {
            at = skip(text, line(text, at, told));
            if (fault != 0) {
                return -1;
            }
        }
        facts = told;
        known.clear();
        return facts.size();
    }

    private static int skip(String text, int at) {
        int i = at;
        while (i < text.length() && (text.charAt(i) == ' ' || text.charAt(i) == '\n')) {
            i++;
        }
        return i;
    }

    private int failed(int which, int at) {
        fault = which;
        faultAt = at;
        return at;
    }

    /** The token at a place, or an empty text if there is none. */
    private static String tokenAt(String text, int at) {
        Matcher run = RUN.matcher(text).region(at, text.length());
        return run.lookingAt() && TOKEN.matcher(run.group()).matches() ? run.group() : "";
    }

    private int line(String text, int start, Map<String, int[]> told) {
        String word = tokenAt(text, start);
        int which = Arrays.asList(WORDS).indexOf(word);
        if (word.isEmpty() || which < 0 || told.size() == 60) {
            return failed(word.isEmpty() ? 1 : 2, start);
        }
        int at = skip(text, start + word.length());
        int[] numbers = new int[LIMITS[which].length];
        StringBuilder key = new StringBuilder(word);
        for (int i = 0; i < numbers.length; i++) {
            String token = tokenAt(text, at);
            if (!token.matches("-?[0-9]+")) {
                return failed(token.isEmpty() ? 1 : 2, at);
            }
            numbers[i] = Integer.parseInt(token);
            if (numbers[i] < LIMITS[which][i][0] || numbers[i] > LIMITS[which][i][1]) {
                return failed(3, at);
            }
            if (i < KEYS[which]) {
                key.append(' ').append(numbers[i]);
            }
            if (i == KEYS[which] - 1 && told.containsKey(key.toString())) {
                return failed(4, at);
            }
            if (word.equals("miss") && i == 2 && !missFits(told, numbers)) {
                return failed(5, at);
            }
            at = skip(text, at + token.length());
        }
        String last = tokenAt(text, at);
        if (!last.equals(";")) {
            return failed(last.isEmpty() ? 1 : 2, at);
        }
        told.put(key.toString(), Arrays.copyOfRange(numbers, KEYS[which], numbers.length));
        return at + 1;
    }

    private static boolean missFits(Map<String, int[]> told, int[] numbers) {
        int above = 100;
        for (int n = 1; n < numbers[1]; n++) {
            int[] found = told.get("miss " + numbers[0] + " " + n);
            above = found == null ? above : found[0];
        }
        int below = 0;
        for (int n = 20; n > numbers[1]; n--) {
            int[] found = told.get("miss " + numbers[0] + " " + n);
            below = found == null ? below : found[0];
        }
        return numbers[2] <= above && numbers[2] >= below;
    }

    public int fault(int what) {
        return what == 0 ? fault : what == 1 ? faultAt : -1;
    }

    private static boolean in(int value, int least, int most) {
        return least <= value && value <= most;
    }

    /** Looked up once for each SEA: a walk back over 72 hours for each step takes too long. */
    private int[] latest(String words, int last, int least, int[] none) {
        return known.computeIfAbsent(words + " " + last, key -> lookBack(words, last, least, none));
    }

    private int[] lookBack(String words, int last, int least, int[] none) {
        for (int i = last; i >= least; i--) {
            int[] found = facts.get(words + " " + i);
            if (found != null) {
                return found;
            }
        }
        return none;
    }

    public int wind(int hour, boolean y) {
        return in(hour, 0, 71) ? latest("wind", hour, 0, new int[2])[y ? 1 : 0] : -100;
    }

    public int stream(int quarter, int hour, boolean y) {
        return in(quarter, 0, 3) && in(hour, 0, 71)
                ? latest("stream " + quarter, hour, 0, new int[2])[y ? 1 : 0] : -100;
    }

    public int miss(int sort, int effort) {
        return in(sort, 0, 1) && in(effort, 0, 20)
                ? latest("miss " + sort, effort, 1, new int[] {100})[0] : -1;
    }

    public int land(int cell) {
        return !in(cell, 0, 63) ? -1
                : facts.containsKey("land " + cell % 8 + " " + cell / 8) ? 1 : 0;
    }

    public int tale(int kind, int x, int y, int hour, int weight) {
        if (!in(kind, 0, 3) || !in(x, 0, 79) || !in(y, 0, 79) || !in(hour, 0, 71)
                || !in(weight, 1, 1000) || tales.size() == 40) {
            return -1;
        }
        tales.add(new int[] {kind, x, y, hour, weight});
        return tales.size() - 1;
    }

    /** The state, x and y of a tale at a moment. */
    private int[] follow(int[] tale, int moment) {
        int x = tale[1];
        int y = tale[2];
        int[] lee = facts.get("lee " + tale[0]);
        for (int hour = tale[3]; ; hour++) {
            if (hour > moment) {
                return new int[] {0, x, y};
            }
            if (land(y / 10 * 8 + x / 10) == 1) {
                return new int[] {1, x, y};
            }
            if (hour == moment) {
                return new int[] {0, x, y};
            }
            int quarter = (x < 40 ? 0 : 1) + (y < 40 ? 0 : 2);
            int percent = lee == null ? 3 : lee[0];
            int dx = stream(quarter, hour, false) + wind(hour, false) * percent / 100;
            int dy = stream(quarter, hour, true) + wind(hour, true) * percent / 100;
            x += dx;
            y += dy;
            if (!in(x, 0, 79) || !in(y, 0, 79)) {
                return new int[] {2, -1, -1};
            }
        }
    }

    public int place(int tale, int moment) {
        if (!in(tale, 0, tales.size() - 1) || !in(moment, 0, 72)) {
            return -1;
        }
        int[] at = follow(tales.get(tale), moment);
        return at[0] == 2 ? -1 : 100 * at[2] + at[1];
    }

    public int state(int tale, int moment) {
        return in(tale, 0, tales.size() - 1) && in(moment, 0, 72)
                ? follow(tales.get(tale), moment)[0] : -1;
    }

    private int prove(boolean possible, int... proof) {
        if (!possible || about(3) == 6 || proofs.size() == 60) {
            return -1;
        }
        proofs.add(proof);
        standing.add(true);
        return proofs.size() - 1;
    }

    public int search(int moment, int a, int b, int c, int d, int sort, int effort) {
        boolean possible = in(moment, 0, 72) && in(a, 0, 7) && in(b, a, 7) && in(c, 0, 7)
                && in(d, c, 7) && in(sort, 0, 1) && in(effort, 0, 20);
        return prove(possible, moment, a, b, c, d, sort, effort);
    }

    public int clue(int moment, int x, int y, int r, int l) {
        boolean possible = in(moment, 0, 72) && in(x, 0, 79) && in(y, 0, 79) && in(r, 0, 80)
                && in(l, 0, 100);
        return prove(possible, moment, x, y, r, l);
    }

    public boolean back(int proof) {
        return in(proof, 0, proofs.size() - 1) && standing.set(proof, false);
    }

    private int weighing(int[] tale, int[] p) {
        int[] at = follow(tale, p[0]);
        if (p.length == 7) {
            boolean inField = at[0] == 0 && in(at[1], p[1] * 10, p[2] * 10 + 9)
                    && in(at[2], p[3] * 10, p[4] * 10 + 9);
            return inField ? miss(p[5], p[6]) : 100;
        }
        boolean near = at[0] != 2 && in(at[1], p[1] - p[3], p[1] + p[3])
                && in(at[2], p[2] - p[3], p[2] + p[3]);
        return near ? 100 : p[4];
    }

    private BigInteger big(int tale) {
        BigInteger product = BigInteger.valueOf(tales.get(tale)[4]);
        for (int i = 0; i < proofs.size(); i++) {
            if (standing.get(i)) {
                product = product.multiply(
                        BigInteger.valueOf(weighing(tales.get(tale), proofs.get(i))));
            }
        }
        return product;
    }

    public long odds(int tale) {
        return in(tale, 0, tales.size() - 1) ? big(tale).longValueExact() : -1;
    }

    private BigInteger[] bigByCell(int moment, boolean adriftAlone) {
        BigInteger[] sums = new BigInteger[64];
        Arrays.fill(sums, BigInteger.ZERO);
        for (int i = 0; i < tales.size(); i++) {
            int[] at = follow(tales.get(i), moment);
            if (at[0] == 0 || at[0] == 1 && !adriftAlone) {
                int cell = at[2] / 10 * 8 + at[1] / 10;
                sums[cell] = sums[cell].add(big(i));
            }
        }
        return sums;
    }

    private BigInteger bigOfAll() {
        BigInteger sum = BigInteger.ZERO;
        for (int i = 0; i < tales.size(); i++) {
            sum = sum.add(big(i));
        }
        return sum;
    }

    public long share(int cell, int moment, boolean denominator) {
        if (!in(cell, 0, 63) || !in(moment, 0, 72)) {
            return -1;
        }
        BigInteger all = bigOfAll();
        BigInteger part = bigByCell(moment, false)[cell];
        if (all.signum() == 0) {
            return denominator ? 1 : 0;
        }
        return (denominator ? all : part).divide(all.gcd(part)).longValueExact();
    }

    public int likeliest(int moment) {
        if (!in(moment, 0, 72)) {
            return -1;
        }
        int found = -1;
        BigInteger most = BigInteger.ZERO;
        BigInteger[] sums = bigByCell(moment, false);
        for (int cell = 0; cell < 64; cell++) {
            if (sums[cell].compareTo(most) > 0) {
                most = sums[cell];
                found = cell;
            }
        }
        return found;
    }

    private BigInteger bestSum;

    /** The BEST split by trying, for each effort together, every gift to each cell in turn. */
    private int[] best(int moment, int sort, int effort) {
        if (!in(moment, 0, 72) || !in(sort, 0, 1) || !in(effort, 0, 40)) {
            return null;
        }
        BigInteger[] sums = new BigInteger[effort + 1];
        int[][] gifts = new int[effort + 1][];
        sums[0] = BigInteger.ZERO;
        gifts[0] = new int[64];
        BigInteger[] byCell = bigByCell(moment, true);
        BigInteger[] found = new BigInteger[21];
        for (int e = 0; e <= 20; e++) {
            found[e] = BigInteger.valueOf(100 - miss(sort, e));
        }
        for (int cell = 0; cell < 64; cell++) {
            BigInteger here = byCell[cell];
            if (here.signum() == 0) {
                continue;
            }
            BigInteger[] nextSums = new BigInteger[effort + 1];
            int[][] nextGifts = new int[effort + 1][];
            for (int used = 0; used <= effort; used++) {
                for (int e = 0; sums[used] != null && e <= 20 && used + e <= effort; e++) {
                    BigInteger sum = sums[used].add(here.multiply(found[e]));
                    int n = used + e;
                    if (nextSums[n] != null && sum.compareTo(nextSums[n]) < 0) {
                        continue;
                    }
                    int[] given = gifts[used].clone();
                    given[cell] = e;
                    int order = nextSums[n] == null ? 1 : sum.compareTo(nextSums[n]);
                    if (order > 0 || order == 0 && Arrays.compare(given, nextGifts[n]) < 0) {
                        nextSums[n] = sum;
                        nextGifts[n] = given;
                    }
                }
            }
            sums = nextSums;
            gifts = nextGifts;
        }
        int least = 0;
        for (int n = 1; n <= effort; n++) {
            if (sums[n] != null && sums[n].compareTo(sums[least]) > 0) {
                least = n;
            }
        }
        bestSum = sums[least];
        return gifts[least];
    }

    public long seen(int moment, int sort, int effort) {
        return best(moment, sort, effort) == null ? -1 : bestSum.longValueExact();
    }

    public int split(int moment, int sort, int effort, int cell) {
        int[] gifts = in(cell, 0, 63) ? best(moment, sort, effort) : null;
        return gifts == null ? -1 : gifts[cell];
    }

    public int left() {
        BigInteger weights = BigInteger.ZERO;
        for (int[] tale : tales) {
            weights = weights.add(BigInteger.valueOf(tale[4]));
        }
        if (tales.isEmpty()) {
            return 10000;
        }
        weights = weights.multiply(BigInteger.valueOf(100).pow(about(3)));
        return bigOfAll().multiply(BigInteger.valueOf(10000)).divide(weights).intValueExact();
    }

    public int tracks(int width, int height, int seen, int speed) {
        if (!in(width, 1, 8) || !in(height, 1, 8) || !in(seen, 1, 80) || !in(speed, 1, 100)) {
            return -1;
        }
        int length = width * 10;
        for (int covered = seen; covered < height * 10; covered += seen) {
            length += seen + width * 10;
        }
        return (int) Math.ceil(length * 60 / (double) speed);
    }

    public int about(int what) {
        int count = 0;
        for (boolean stands : standing) {
            count += stands ? 1 : 0;
        }
        int[] answers = {facts.size(), tales.size(), proofs.size(), count, tape.length()};
        return in(what, 0, 4) ? answers[what] : -1;
    }
}
