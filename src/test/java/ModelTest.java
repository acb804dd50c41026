import java.util.Random;

/** All promises: runs of calls, of fixed seeds, that the class must answer as the model does, and never throw. */
public final class ModelTest {
    private static final String[] CALLS = {
        "person", "of", "set", "turn", "as", "grind", "lend", "looks", "sees", "days", "now", "on", "then", "forgives",
        "worn", "unseen", "borrow", "kind", "better", "most", "sharpest", "push", "feed", "wipe", "quay", "sheet",
        "write", "copy", "lays", "book", "read", "image", "undo", "tear", "count", "status",
    };
    private static final int[] COUNTS = {
        1, 2, 3, 2, 2, 1, 2, 2, 2, 1, 1, 3, 3, 1, 1, 1, 1, 1, 2, 2, 1, 0, 2, 0, 0, 3, 3, 5, 1, 2, 2, 0, 0, 0, 1, 1,
    };
    private static final String[] WORDS = {
        "person", "brother", "bride", "saint", "twin", "widow", "grudge", "at", "grind", "up", "down", ";", ";", "0",
        "1", "7", "8", "20", "99", "100", "1000", "x", "#",
    };
    private static final long[] WILD = {
        Integer.MIN_VALUE, Integer.MIN_VALUE + 1, -1000000001, -2, -1, 0, 1, 2, 5, 6, 7, 8, 9, 10, 39, 40, 41, 60, 61,
        99, 100, 101, 198, 199, 200, 201, Integer.MAX_VALUE - 1, Integer.MAX_VALUE,
    };
    private static final int RUNS = 500;
    private static final int RUN_LENGTH = 512;

    private final Random random;
    private final Model model = new Model();
    private final GrudgeGlasses x = new GrudgeGlasses();
    private int calls = 0;

    private ModelTest(int seed) {
        random = new Random(seed);
    }

    public static void main(String[] args) {
        for (int seed = 0; seed < RUNS; seed++) {
            new ModelTest(seed).run(seed);
        }
        Due.end();
    }

    /** As many calls as an object serves. */
    private void run(int seed) {
        int wild = seed % 10 == 0 ? 50 : 3;
        int folk = 1 + random.nextInt(8);
        while (calls < RUN_LENGTH) {
            if (calls < folk) {
                tell(seed, "person", new long[] {random.nextInt(6)});
            } else if (random.nextInt(25) == 0) {
                feedText(seed);
            } else {
                int c = random.nextInt(CALLS.length);
                // Setting comes more often, so that the runs see many states.
                c = random.nextInt(4) == 0 ? 2 : c;
                tell(seed, CALLS[c], argumentsOf(CALLS[c], COUNTS[c], wild));
            }
        }
    }

    private void feedText(int seed) {
        StringBuilder text = new StringBuilder();
        int items = 1 + random.nextInt(4);
        for (int i = 0; i < items; i++) {
            text.append(i == 0 ? "" : ";").append(item());
        }
        if (random.nextInt(3) == 0) {
            text.insert(random.nextInt(text.length() + 1), WORDS[random.nextInt(WORDS.length)]);
        }
        if (random.nextInt(5) == 0) {
            text.setLength(random.nextInt(text.length() + 1));
        }
        tell(seed, "wipe", new long[0]);
        for (int i = 0; i < text.length();) {
            int n = Math.min(text.length() - i, 1 + random.nextInt(4));
            int bytes = random.nextInt();
            for (int j = 0; j < n; j++) {
                bytes = bytes << 8 | text.charAt(i + j);
            }
            tell(seed, "feed", new long[] {bytes, n});
            i += n;
        }
        tell(seed, "quay", new long[0]);
    }

    private String item() {
        StringBuilder item = new StringBuilder();
        String blank = random.nextBoolean() ? " " : "  ";
        if (random.nextInt(3) > 0) {
            return item.append(WORDS[8 + random.nextInt(3)]).append(blank).append(random.nextInt(8)).toString();
        }
        item.append(WORDS[random.nextInt(6)]);
        if (random.nextBoolean()) {
            item.append(blank).append("grudge").append(blank).append(random.nextInt(100));
        }
        if (random.nextBoolean()) {
            item.append(" at").append(blank).append(random.nextInt(8));
        }
        return item.toString();
    }

    private long[] argumentsOf(String call, int n, int wild) {
        long[] a = new long[n];
        for (int i = 0; i < n; i++) {
            a[i] = random.nextInt(100) < wild ? WILD[random.nextInt(WILD.length)] : fit(call, i, a);
            if (call.equals("write") && i == 2 && random.nextInt(3) == 0) {
                a[i] = random.nextLong();
            }
        }
        return a;
    }

    /** An argument that may well be taken, edges among them. */
    private long fit(String call, int i, long[] before) {
        int people = (int) model.answer("count", new long[] {0});
        int person = random.nextInt(people + 1) - (random.nextInt(20) == 0 ? 1 : 0);
        switch (call) {
            case "person": return random.nextInt(6);
            case "of": return i == 0 ? person : random.nextInt(10);
            case "set": return i == 0 ? person : i == 1 ? 1 + random.nextInt(6) : fitFor((int) before[1], person);
            case "turn":
            case "as": return i == 0 ? person : random.nextInt(6);
            case "sees": return i == 0 ? person : random.nextInt(random.nextBoolean() ? 60 : 200);
            case "days": return 1 + random.nextInt(random.nextInt(4) == 0 ? 100 : 8);
            case "now": return random.nextInt(5);
            case "on": return i == 0 ? person : i == 1 ? random.nextInt(201) : random.nextInt(2);
            case "then": return i < 2 ? person : random.nextInt(201);
            case "better":
            case "most": return i == 0 ? person : 1 + random.nextInt(60);
            case "sharpest": return random.nextInt(101);
            case "feed": return i == 0 ? random.nextInt() : 1 + random.nextInt(4);
            case "sheet": return i == 0 ? random.nextInt(4) : i == 1 ? fitBits() : random.nextInt(random.nextBoolean() ? 4 : 41);
            case "write": return i == 0 ? random.nextInt(4) : i == 1 ? random.nextInt(8) : random.nextInt(110) - 5;
            case "copy": return i % 2 == 0 && i < 4 ? random.nextInt(4) : random.nextInt(6);
            case "lays": return random.nextInt(4);
            case "book":
            case "read": return i == 0 ? random.nextInt(4) : person;
            case "count": return random.nextInt(4);
            case "status": return random.nextInt(8) - 1;
            default: return person;
        }
    }

    private long fitFor(int what, int person) {
        int[] edges = {0, 1, 29, 30, 31, 50, 51, 59, 60, 61, 79, 80, 81, 98, 99};
        return what == 3 ? random.nextInt(2) : what == 2 || what == 4 ? person
            : random.nextBoolean() ? edges[random.nextInt(edges.length)] : random.nextInt(100);
    }

    private int fitBits() {
        int[] bits = {0, 8, 8, 8, 16, 64};
        return bits[random.nextInt(bits.length)];
    }

    private void tell(int seed, String call, long[] a) {
        calls++;
        if (calls > RUN_LENGTH) {
            return;
        }
        StringBuilder told = new StringBuilder("seed " + seed + ": " + call + "(");
        for (int i = 0; i < a.length; i++) {
            told.append(i == 0 ? "" : ", ").append(a[i]);
        }
        Due.is(told.append(")").toString(), Calls.answer(x, call, a), model.answer(call, a));
    }
}
