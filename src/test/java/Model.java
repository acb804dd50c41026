import java.util.ArrayList;
import java.util.List;
import java.util.function.Predicate;
import java.util.regex.Matcher;
import java.util.regex.Pattern;

/**
 * The document once more, told another way: kinds ask the kind above, every look ahead is made on a copy of the
 * whole quay, and the text goes by states. It is slow and makes what it likes; the class must answer as it does.
 */
final class Model {
    private static final List<String> KINDS = List.of("person", "brother", "bride", "saint", "twin", "widow");
    private static final int[] ABOVE = {-1, 0, 0, 0, 1, 2};

    /** KIND, GRUDGE, AT, UP, SHOWS, POWER, WORN, by the numbers that of() gives them. */
    private static final class Folk {
        private final List<int[]> ones = new ArrayList<>();
        private int day = 0;

        Folk copy() {
            Folk f = new Folk();
            ones.forEach(one -> f.ones.add(one.clone()));
            f.day = day;
            return f;
        }

        int[] add(int kind) {
            int[] one = {kind, 20, -1, 0, -1, 0, 0};
            ones.add(one);
            return one;
        }

        int size() {
            return ones.size();
        }

        int look(int k, int o) {
            return ones.get(k)[3] == 1 ? 50 : lookAs(ones.get(k)[0], k, o);
        }

        private int lookAs(int kind, int k, int o) {
            int[] one = ones.get(k);
            if (kind == 0) {
                return o == one[4] ? (one[5] > one[6] ? one[5] - one[6] : 0) : one[6] / 2;
            }
            if (kind == 3) {
                return 10;
            }
            int above = lookAs(ABOVE[kind], k, o);
            if (kind == 1) {
                return o - k == 1 ? above + 5 : above;
            }
            if (kind == 2) {
                return o < k ? above + above : above;
            }
            if (kind == 4) {
                return k - o == 1 ? above + 5 : above;
            }
            return above < 5 ? 5 : above;
        }

        int lookAtItsOne(int k) {
            return ones.get(k)[2] < 0 ? 0 : look(k, ones.get(k)[2]);
        }

        int grinds(int kind, int grudge) {
            int[] more = {0, 10, 0, 0, 10, 20};
            if (kind == 0) {
                return grudge;
            }
            int above = grinds(ABOVE[kind], grudge);
            int power = kind == 3 ? 0 : kind == 2 ? above / 2 : above + more[kind];
            return power > 99 ? 99 : power;
        }

        int forgives(int kind, int k, int v) {
            if (kind == 0) {
                return v < 30 ? 1 : 0;
            }
            int above = forgives(ABOVE[kind], k, v);
            if (kind == 1 && ones.get(k)[1] > 50) {
                return 0;
            }
            if (kind == 5 && ones.get(k)[3] == 1) {
                return above + 1;
            }
            return kind == 3 ? 3 : kind == 2 ? above + above : above;
        }

        int grows(int kind, int v) {
            if (kind == 0) {
                return v >= 60 ? 1 : 0;
            }
            int above = grows(ABOVE[kind], v);
            if (kind == 1 && v >= 80) {
                return above + 1;
            }
            return kind == 3 ? 0 : kind == 4 ? above + above : above;
        }

        int grind(int k) {
            int[] one = ones.get(k);
            one[3] = 0;
            one[4] = one[2];
            one[5] = grinds(one[0], one[1]);
            one[6] = 0;
            return one[5];
        }

        Folk on(int n) {
            Folk f = copy();
            for (int i = 0; i < n; i++) {
                f.goDay();
            }
            return f;
        }

        void goDay() {
            for (int k = 0; k < size(); k++) {
                int[] one = ones.get(k);
                int v = lookAtItsOne(k);
                int next = one[1] + grows(one[0], v) - forgives(one[0], k, v);
                one[1] = next < 0 ? 0 : next > 99 ? 99 : next;
                if (one[3] == 0 && one[1] < one[5]) {
                    one[6] = one[6] == 99 ? 99 : one[6] + 1;
                }
            }
            day++;
        }

        int firstDay(Predicate<Folk> holds) {
            Folk f = copy();
            for (int n = 0; n <= 200; n++) {
                if (holds.test(f)) {
                    return n;
                }
                f.goDay();
            }
            return 1000;
        }

        boolean isSeen(int o) {
            for (int k = 0; k < size(); k++) {
                if (k != o && look(k, o) >= 30) {
                    return true;
                }
            }
            return false;
        }

        void swapPairs(int a, int b) {
            for (int i = 4; i <= 6; i++) {
                int held = ones.get(a)[i];
                ones.get(a)[i] = ones.get(b)[i];
                ones.get(b)[i] = held;
            }
        }
    }

    private Folk folk = new Folk();
    private Folk kept = null;
    private final StringBuilder tape = new StringBuilder();
    private final int[] bits = new int[4];
    private final long[][] sheets = new long[4][];
    private final int[] found = new int[7];

    long answer(String call, long[] a) {
        long answer = told(call, a);
        // A number of a sheet may be like a finding, but write() has none but these two.
        boolean isFinding = answer < -1000000000 && answer >= -1000000007 && !isNumber;
        if (isFinding) {
            found[(int) (-1000000001 - answer)]++;
        }
        return answer;
    }

    private boolean isNumber;

    private boolean there(long k) {
        return k >= 0 && k < folk.size();
    }

    private static boolean in(long v, long least, long most) {
        return v >= least && v <= most;
    }

    private long told(String call, long[] a) {
        isNumber = false;
        switch (call) {
            case "person":
                return !in(a[0], 0, 5) ? Due.BEYOND : folk.size() == 8 ? Due.FULL : added((int) a[0]);
            case "of":
                return there(a[0]) && in(a[1], 0, 9) ? of((int) a[0], (int) a[1]) : Due.BEYOND;
            case "set":
                return set(a[0], a[1], a[2]);
            case "turn":
                return there(a[0]) && in(a[1], 0, 5) ? swap(folk.ones.get((int) a[0]), 0, (int) a[1]) : Due.BEYOND;
            case "as":
                return !there(a[0]) || !in(a[1], 0, 5) ? Due.BEYOND : as(folk.ones.get((int) a[0]), (int) a[1]);
            case "grind":
                return !there(a[0]) ? Due.BEYOND : folk.ones.get((int) a[0])[2] < 0 ? Due.STATE : folk.grind((int) a[0]);
            case "lend":
                return lend(a[0], a[1]);
            case "looks":
                return there(a[0]) && there(a[1]) && a[0] != a[1] ? folk.look((int) a[0], (int) a[1]) : Due.BEYOND;
            case "sees":
                return there(a[0]) && in(a[1], 0, 198)
                    ? set(folk, o -> o != a[0] && folk.look((int) a[0], o) >= a[1]) : Due.BEYOND;
            case "days":
                return days(a[0]);
            case "now":
                return now(a[0]);
            case "on":
                return there(a[0]) && in(a[1], 0, 200) && in(a[2], 0, 1)
                    ? folk.on((int) a[1]).ones.get((int) a[0])[a[2] == 0 ? 1 : 6] : Due.BEYOND;
            case "then":
                return there(a[0]) && there(a[1]) && a[0] != a[1] && in(a[2], 0, 200)
                    ? folk.on((int) a[2]).look((int) a[0], (int) a[1]) : Due.BEYOND;
            case "forgives":
                return first(a[0], f -> f.ones.get((int) a[0])[1] == 0);
            case "worn":
                return first(a[0], f -> f.ones.get((int) a[0])[6] >= f.ones.get((int) a[0])[5]);
            case "unseen":
                return first(a[0], f -> !f.isSeen((int) a[0]));
            default:
                return toldOfTheRest(call, a);
        }
    }

    private long toldOfTheRest(String call, long[] a) {
        switch (call) {
            case "borrow":
                return there(a[0]) ? borrow((int) a[0]) : Due.BEYOND;
            case "kind":
                return there(a[0]) ? kind((int) a[0]) : Due.BEYOND;
            case "better":
                return there(a[0]) && in(a[1], 1, 60) ? better((int) a[0], (int) a[1]) : Due.BEYOND;
            case "most":
                return there(a[0]) && in(a[1], 1, 60) ? most((int) a[0], (int) a[1]) : Due.BEYOND;
            case "sharpest":
                return !in(a[0], 0, 100) ? Due.BEYOND : folk.size() == 0 ? Due.NONE : sharpest((int) a[0]);
            case "push":
                return push();
            case "feed":
                return feed((int) a[0], a[1]);
            case "wipe":
                return wiped();
            case "quay":
                return quay();
            case "sheet":
                return sheet(a[0], a[1], a[2]);
            case "write":
                return write(a[0], a[1], a[2]);
            case "copy":
                return copy(a);
            case "lays":
                return !in(a[0], 0, 3) ? Due.BEYOND : bits[(int) a[0]] == 0 ? Due.MISSING : lays(sheets[(int) a[0]]);
            case "book":
            case "read":
                return bookOrRead(call, a[0], a[1]);
            case "image":
                kept = folk.copy();
                return 1;
            case "undo":
                folk = kept == null ? folk : kept.copy();
                return kept == null ? Due.NONE : folk.size();
            case "tear":
                int was = kept == null ? 0 : 1;
                kept = null;
                return was;
            case "count":
                return count(a[0]);
            case "status":
                return !in(a[0], -1, 6) ? Due.BEYOND : a[0] >= 0 ? found[(int) a[0]]
                    : java.util.Arrays.stream(found).sum();
            default:
                throw new IllegalArgumentException(call);
        }
    }

    private int added(int kind) {
        folk.add(kind);
        return folk.size() - 1;
    }

    private int of(int k, int what) {
        int[] one = folk.ones.get(k);
        int v = folk.lookAtItsOne(k);
        return what <= 6 ? one[what] : what == 7 ? folk.grinds(one[0], one[1])
            : what == 8 ? folk.forgives(one[0], k, v) : folk.grows(one[0], v);
    }

    private static int swap(int[] one, int what, int v) {
        int was = one[what];
        one[what] = v;
        return was;
    }

    private int set(long k, long what, long v) {
        if (!there(k) || !in(what, 1, 6)) {
            return Due.BEYOND;
        }
        boolean isOne = what == 2 || what == 4;
        long least = isOne ? -1 : 0;
        long most = isOne ? folk.size() - 1 : what == 3 ? 1 : 99;
        return in(v, least, most) ? swap(folk.ones.get((int) k), (int) what, (int) v) : Due.BEYOND;
    }

    private static int as(int[] one, int kind) {
        for (int k = one[0]; k >= 0; k = ABOVE[k]) {
            if (k == kind) {
                return one[1];
            }
        }
        return Due.KIND;
    }

    private int lend(long k, long o) {
        if (!there(k) || !there(o) || k == o) {
            return Due.BEYOND;
        }
        folk.swapPairs((int) k, (int) o);
        return 1;
    }

    private static int set(Folk f, Predicate<Integer> holds) {
        int set = 0;
        for (int o = 0; o < f.size(); o++) {
            set += holds.test(o) ? 1 << o : 0;
        }
        return set;
    }

    private int grudges() {
        return folk.ones.stream().mapToInt(one -> one[1]).sum();
    }

    private int days(long n) {
        if (!in(n, 1, 100)) {
            return Due.BEYOND;
        }
        if (folk.day + n > 9999) {
            return Due.STATE;
        }
        folk = folk.on((int) n);
        return grudges();
    }

    private int now(long what) {
        if (what == 0) {
            return folk.day;
        }
        if (what == 1) {
            return grudges();
        }
        if (what == 2) {
            return set(folk, o -> folk.ones.get(o)[1] == 0);
        }
        if (what == 3) {
            return set(folk, folk::isSeen);
        }
        return what == 4 ? set(folk, o -> folk.ones.get(o)[3] == 1) : Due.BEYOND;
    }

    private int first(long k, Predicate<Folk> holds) {
        if (!there(k)) {
            return Due.BEYOND;
        }
        int n = folk.firstDay(holds);
        return n > 200 ? Due.NONE : n;
    }

    private static int forgiven(Folk f, int k) {
        return f.firstDay(g -> g.ones.get(k)[1] == 0);
    }

    private int borrow(int k) {
        int best = Due.NONE;
        int soonest = forgiven(folk, k);
        for (int o = folk.size() - 1; o >= 0; o--) {
            if (o != k) {
                Folk f = folk.copy();
                f.swapPairs(k, o);
                int n = forgiven(f, k);
                if (n < forgiven(folk, k) && n <= soonest) {
                    best = o;
                    soonest = n;
                }
            }
        }
        return best;
    }

    private int kind(int k) {
        int best = Due.NONE;
        int soonest = 200;
        for (int kind = 5; kind >= 0; kind--) {
            Folk f = folk.copy();
            f.ones.get(k)[0] = kind;
            int n = forgiven(f, k);
            if (n <= soonest) {
                best = kind;
                soonest = n;
            }
        }
        return best;
    }

    private int better(int k, int n) {
        int best = 0;
        int least = 1000;
        for (int answer = folk.size(); answer >= 0; answer--) {
            Folk f = folk.copy();
            f.ones.get(k)[2] = answer - 1;
            int grudge = f.on(n).ones.get(k)[1];
            if (grudge <= least) {
                best = answer;
                least = grudge;
            }
        }
        return best;
    }

    private int most(int k, int n) {
        int best = Due.NONE;
        for (int grudge = 0; grudge <= 99; grudge++) {
            Folk f = folk.copy();
            f.ones.get(k)[1] = grudge;
            best = f.on(n).ones.get(k)[1] == 0 ? grudge : best;
        }
        return best;
    }

    private int sharpest(int n) {
        Folk f = folk.on(n);
        int best = 0;
        int most = -1;
        for (int k = f.size() - 1; k >= 0; k--) {
            int sum = 0;
            for (int o = 0; o < f.size(); o++) {
                sum += o == k ? 0 : f.look(k, o);
            }
            if (sum >= most) {
                best = k;
                most = sum;
            }
        }
        return best;
    }

    private int push() {
        for (int many = 0; many <= folk.size() && folk.size() >= 2; many++) {
            for (int set = 0; set < 1 << folk.size(); set++) {
                Folk f = folk.copy();
                int ups = 0;
                for (int k = 0; k < f.size(); k++) {
                    if ((set >> k & 1) == 1) {
                        f.ones.get(k)[3] = 1;
                        ups++;
                    }
                }
                if (ups == many && set(f, f::isSeen) == (1 << f.size()) - 1) {
                    return set;
                }
            }
        }
        return Due.NONE;
    }

    private int feed(int bytes, long n) {
        if (!in(n, 1, 4)) {
            return Due.BEYOND;
        }
        if (tape.length() + n > 120) {
            return Due.FULL;
        }
        byte[] all = java.nio.ByteBuffer.allocate(4).putInt(bytes).array();
        for (int i = 4 - (int) n; i < 4; i++) {
            tape.append((char) Byte.toUnsignedInt(all[i]));
        }
        return tape.length();
    }

    private int wiped() {
        int had = tape.length();
        tape.setLength(0);
        return had;
    }

    private int quay() {
        String text = tape.toString();
        tape.setLength(0);
        Folk f = folk.copy();
        Matcher m = Pattern.compile("[a-z]+|[0-9]+|[^ ]").matcher(text);
        String state = "item";
        int items = 0;
        while (m.find()) {
            state = next(state, m.group(), f);
            if (state.isEmpty()) {
                return -1 - m.start();
            }
            items += state.equals("item") ? 1 : 0;
        }
        if (state.equals("item") || state.endsWith("number")) {
            return -1 - text.length();
        }
        folk = f;
        return items + 1;
    }

    /** The state behind a token, or none if it can't stand there. */
    private static String next(String state, String token, Folk f) {
        int last = f.size() - 1;
        int number = token.matches("0*[0-9]{1,3}") ? Integer.parseInt(token) : 1000;
        switch (state) {
            case "item":
                if (KINDS.contains(token) && f.size() < 8) {
                    f.add(KINDS.indexOf(token));
                    return "kind";
                }
                return List.of("grind", "up", "down").contains(token) ? token + " number" : "";
            case "grudge number":
                if (number > 99) {
                    return "";
                }
                f.ones.get(last)[1] = number;
                return "grudged";
            case "at number":
                if (number > last) {
                    return "";
                }
                f.ones.get(last)[2] = number;
                return "end";
            case "grind number":
                if (number > last || f.ones.get(number)[2] < 0) {
                    return "";
                }
                f.grind(number);
                return "end";
            case "up number":
            case "down number":
                if (number > last) {
                    return "";
                }
                f.ones.get(number)[3] = state.startsWith("up") ? 1 : 0;
                return "end";
            default:
                if (token.equals(";")) {
                    return "item";
                }
                if (token.equals("at") && !state.equals("end")) {
                    return "at number";
                }
                return token.equals("grudge") && state.equals("kind") ? "grudge number" : "";
        }
    }

    private int sheet(long s, long b, long n) {
        if (!in(s, 0, 3) || b != 0 && b != 8 && b != 16 && b != 64) {
            return Due.BEYOND;
        }
        if (!in(n, 0, 40)) {
            return n < 0 ? Due.SIZE : Due.BEYOND;
        }
        bits[(int) s] = (int) b;
        sheets[(int) s] = new long[b == 0 ? 0 : (int) n];
        return sheets[(int) s].length;
    }

    private long write(long s, long i, long v) {
        if (!in(s, 0, 3)) {
            return Due.BEYOND;
        }
        if (bits[(int) s] == 0) {
            return Due.MISSING;
        }
        if (!in(i, 0, sheets[(int) s].length - 1)) {
            return Due.BEYOND;
        }
        isNumber = true;
        long was = sheets[(int) s][(int) i];
        int off = 64 - bits[(int) s];
        sheets[(int) s][(int) i] = v << off >> off;
        return was;
    }

    private int copy(long[] a) {
        if (!in(a[0], 0, 3) || !in(a[2], 0, 3)) {
            return Due.BEYOND;
        }
        int s = (int) a[0];
        int t = (int) a[2];
        if (bits[s] == 0 || bits[t] == 0) {
            return Due.MISSING;
        }
        if (bits[s] != bits[t]) {
            return Due.KIND;
        }
        if (a[1] < 0 || a[3] < 0 || a[4] < 0 || a[1] + a[4] > sheets[s].length || a[3] + a[4] > sheets[t].length) {
            return Due.BEYOND;
        }
        long[] were = sheets[s].clone();
        for (int i = 0; i < a[4]; i++) {
            sheets[t][(int) a[3] + i] = were[(int) a[1] + i];
        }
        return (int) a[4];
    }

    private int lays(long[] row) {
        int came = 0;
        for (int i = 0; i < row.length; i++) {
            if (there(i) && in(row[i], 0, 99)) {
                folk.ones.get(i)[1] = (int) row[i];
                came++;
            }
        }
        return came;
    }

    private int bookOrRead(String call, long s, long k) {
        if (!in(s, 0, 3)) {
            return Due.BEYOND;
        }
        if (bits[(int) s] == 0) {
            return Due.MISSING;
        }
        if (!there(k)) {
            return Due.BEYOND;
        }
        long[] row = sheets[(int) s];
        if (call.equals("book")) {
            System.arraycopy(told(folk, (int) k, row.length), 0, row, 0, row.length);
            return row.length;
        }
        int ways = 0;
        for (int i = 0; i < 600; i++) {
            Folk f = new Folk();
            folk.ones.forEach(one -> f.ones.add(one.clone()));
            f.ones.get((int) k)[0] = i / 100;
            f.ones.get((int) k)[5] = i % 100;
            ways += java.util.Arrays.equals(told(f, (int) k, row.length), row) ? 1 : 0;
        }
        return ways;
    }

    private static long[] told(Folk f, int k, int n) {
        long[] row = new long[n];
        Folk g = f.copy();
        for (int i = 0; i < n; i++) {
            row[i] = g.ones.get(k)[1];
            g.goDay();
        }
        return row;
    }

    private int count(long what) {
        if (what == 0) {
            return folk.size();
        }
        if (what == 1) {
            return tape.length();
        }
        if (what == 2) {
            return (int) folk.ones.stream().filter(one -> one[4] < 0).count();
        }
        return what == 3 ? folk.ones.stream().mapToInt(one -> one[6]).sum() : Due.BEYOND;
    }
}
