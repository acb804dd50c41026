/** Promises 1 to 10: a new object, person, of, set, turn, as, grind, lend, looks, sees. */
public final class PeopleTest {
    private static final int[] NOT_THERE = {-1, 2, 8, Integer.MAX_VALUE, Integer.MIN_VALUE};

    public static void main(String[] args) {
        newObject();
        person();
        ofAtFirst();
        grinds();
        forgivesAndGrows();
        atNobodyLooksAsZero();
        set();
        setRefuses();
        turn();
        as();
        grind();
        lend();
        looksOfEachKind();
        looksRefuses();
        sees();
        Due.end();
    }

    private static void newObject() {
        GrudgeGlasses x = new GrudgeGlasses();
        Due.is("count(0)", x.count(0), 0);
        Due.is("count(1)", x.count(1), 0);
        Due.is("now(0)", x.now(0), 0);
        Due.is("status(-1)", x.status(-1), 0);
        Due.is("undo()", x.undo(), Due.NONE);
        Due.is("lays(0)", x.lays(0), Due.MISSING);
        Due.is("of(0, 0)", x.of(0, 0), Due.BEYOND);
    }

    private static void person() {
        GrudgeGlasses x = new GrudgeGlasses();
        for (int k = 0; k < 8; k++) {
            Due.is("person", x.person(k % 6), k);
            Due.is("of its kind", x.of(k, 0), k % 6);
        }
        Due.is("a 9th", x.person(0), Due.FULL);
        Due.is("a 9th of no kind", x.person(6), Due.BEYOND);
        Due.is("of no kind", x.person(-1), Due.BEYOND);
        Due.is("of no kind", x.person(Integer.MIN_VALUE), Due.BEYOND);
        Due.is("count(0)", x.count(0), 8);
    }

    private static void ofAtFirst() {
        GrudgeGlasses x = Due.quayOf(Due.PERSON, Due.BROTHER);
        int[] want = {1, 20, -1, 0, -1, 0, 0, 30, 1, 0};
        for (int what = 0; what < want.length; what++) {
            Due.is("of(1, " + what + ")", x.of(1, what), want[what]);
        }
        Due.is("of(1, 10)", x.of(1, 10), Due.BEYOND);
        Due.is("of(1, -1)", x.of(1, -1), Due.BEYOND);
        for (int person : NOT_THERE) {
            Due.is("of one not there", x.of(person, 1), Due.BEYOND);
        }
        Due.is("status(0)", x.status(0), 2 + NOT_THERE.length);
    }

    private static void grinds() {
        int[] grudges = {0, 1, 15, 79, 80, 89, 90, 99};
        int[][] want = {
            {0, 1, 15, 79, 80, 89, 90, 99},
            {10, 11, 25, 89, 90, 99, 99, 99},
            {0, 0, 7, 39, 40, 44, 45, 49},
            {0, 0, 0, 0, 0, 0, 0, 0},
            {20, 21, 35, 99, 99, 99, 99, 99},
            {20, 20, 27, 59, 60, 64, 65, 69},
        };
        for (int kind = 0; kind < 6; kind++) {
            GrudgeGlasses x = Due.quayOf(kind);
            for (int i = 0; i < grudges.length; i++) {
                x.set(0, 1, grudges[i]);
                Due.is("GRINDS of kind " + kind + " with " + grudges[i], x.of(0, 7), want[kind][i]);
            }
        }
    }

    /** How sharply it looks is put by the power of a pair that shows whom it is at, itself. */
    private static void forgivesAndGrows() {
        int[] sharp = {0, 29, 30, 59, 60, 79, 80, 99};
        int[][] forgives = {
            {1, 1, 0, 0, 0, 0, 0, 0},
            {1, 1, 0, 0, 0, 0, 0, 0},
            {2, 2, 0, 0, 0, 0, 0, 0},
            {3, 3, 3, 3, 3, 3, 3, 3},
            {1, 1, 0, 0, 0, 0, 0, 0},
            {2, 2, 0, 0, 0, 0, 0, 0},
        };
        int[][] grows = {
            {0, 0, 0, 0, 1, 1, 1, 1},
            {0, 0, 0, 0, 1, 1, 2, 2},
            {0, 0, 0, 0, 1, 1, 1, 1},
            {0, 0, 0, 0, 0, 0, 0, 0},
            {0, 0, 0, 0, 2, 2, 4, 4},
            {0, 0, 0, 0, 1, 1, 1, 1},
        };
        for (int kind = 0; kind < 6; kind++) {
            GrudgeGlasses x = Due.quayOf(kind);
            for (int i = 0; i < sharp.length; i++) {
                Due.put(x, 0, 50, 0, 0, 0, sharp[i], 0);
                Due.is("FORGIVES of " + kind + " by " + sharp[i], x.of(0, 8), forgives[kind][i]);
                Due.is("GROWS of " + kind + " by " + sharp[i], x.of(0, 9), grows[kind][i]);
                x.set(0, 1, 51);
                boolean isHard = kind == Due.BROTHER || kind == Due.TWIN;
                Due.is("FORGIVES 51 of " + kind, x.of(0, 8), isHard ? 0 : forgives[kind][i]);
                Due.is("GROWS from 51 of " + kind, x.of(0, 9), grows[kind][i]);
                x.set(0, 1, 0);
                Due.is("FORGIVES 0 of " + kind, x.of(0, 8), forgives[kind][i]);
            }
            Due.put(x, 0, 20, 0, 1, 0, 99, 0);
            Due.is("FORGIVES of " + kind + " up", x.of(0, 8), kind == Due.SAINT ? 3 : kind == Due.WIDOW ? 1 : 0);
            Due.is("GROWS of " + kind + " up", x.of(0, 9), 0);
        }
    }

    private static void atNobodyLooksAsZero() {
        int[] forgives = {1, 1, 2, 3, 1, 3};
        for (int kind = 0; kind < 6; kind++) {
            GrudgeGlasses x = Due.quayOf(kind);
            Due.put(x, 0, 20, -1, 1, -1, 99, 0);
            Due.is("FORGIVES of " + kind + " at nobody, up", x.of(0, 8), forgives[kind]);
            Due.put(x, 0, 20, -1, 0, -1, 99, 99);
            Due.is("GROWS of " + kind + " at nobody", x.of(0, 9), 0);
        }
    }

    private static void set() {
        GrudgeGlasses x = Due.quayOf(Due.PERSON, Due.PERSON);
        int[] first = {20, -1, 0, -1, 0, 0};
        int[] next = {99, 1, 1, 0, 99, 99};
        int[] last = {0, -1, 0, -1, 0, 0};
        for (int what = 1; what <= 6; what++) {
            Due.is("set(0, " + what + ")", x.set(0, what, next[what - 1]), first[what - 1]);
            Due.is("of(0, " + what + ")", x.of(0, what), next[what - 1]);
            Due.is("of(1, " + what + ")", x.of(1, what), first[what - 1]);
            Due.is("set(0, " + what + ") back", x.set(0, what, last[what - 1]), next[what - 1]);
            Due.is("of(0, " + what + ")", x.of(0, what), last[what - 1]);
        }
        Due.is("at itself", x.set(1, 2, 1), -1);
        Due.is("at itself", x.of(1, 2), 1);
    }

    private static void setRefuses() {
        GrudgeGlasses x = Due.quayOf(Due.PERSON, Due.PERSON);
        int[] most = {99, 1, 1, 1, 99, 99};
        int[] least = {0, -1, 0, -1, 0, 0};
        for (int what = 1; what <= 6; what++) {
            int was = x.of(0, what);
            Due.is("set(0, " + what + ", too much)", x.set(0, what, most[what - 1] + 1), Due.BEYOND);
            Due.is("set(0, " + what + ", too little)", x.set(0, what, least[what - 1] - 1), Due.BEYOND);
            Due.is("set(0, " + what + ", far)", x.set(0, what, Integer.MIN_VALUE), Due.BEYOND);
            Due.is("of(0, " + what + ")", x.of(0, what), was);
            for (int person : NOT_THERE) {
                Due.is("set of one not there", x.set(person, what, 0), Due.BEYOND);
            }
        }
        Due.is("set(0, 0, 1)", x.set(0, 0, 1), Due.BEYOND);
        Due.is("set(0, 7, 1)", x.set(0, 7, 1), Due.BEYOND);
        Due.is("set(0, -1, 1)", x.set(0, -1, 1), Due.BEYOND);
        Due.is("status(0)", x.status(0), 6 * 8 + 3);
    }

    private static void turn() {
        GrudgeGlasses x = Due.quayOf(Due.WIDOW, Due.SAINT);
        Due.put(x, 0, 33, 1, 1, 0, 44, 5);
        Due.is("turn(0, 4)", x.turn(0, 4), Due.WIDOW);
        Due.is("turn(0, 4) again", x.turn(0, 4), Due.TWIN);
        Due.is("of(0, 0)", x.of(0, 0), Due.TWIN);
        Due.is("of(1, 0)", x.of(1, 0), Due.SAINT);
        int[] stays = {33, 1, 1, 0, 44, 5};
        for (int what = 1; what <= 6; what++) {
            Due.is("of(0, " + what + ")", x.of(0, what), stays[what - 1]);
        }
        Due.is("turn(0, 6)", x.turn(0, 6), Due.BEYOND);
        Due.is("turn(0, -1)", x.turn(0, -1), Due.BEYOND);
        for (int person : NOT_THERE) {
            Due.is("turn of one not there", x.turn(person, 0), Due.BEYOND);
        }
    }

    private static void as() {
        boolean[][] may = {
            {true, false, false, false, false, false},
            {true, true, false, false, false, false},
            {true, false, true, false, false, false},
            {true, false, false, true, false, false},
            {true, true, false, false, true, false},
            {true, false, true, false, false, true},
        };
        for (int kind = 0; kind < 6; kind++) {
            GrudgeGlasses x = Due.quayOf(Due.PERSON, kind);
            x.set(1, 1, 7);
            for (int above = 0; above < 6; above++) {
                Due.is("as(" + above + ") of " + kind, x.as(1, above), may[kind][above] ? 7 : Due.KIND);
            }
            Due.is("as(1, 6)", x.as(1, 6), Due.BEYOND);
            Due.is("as(1, -1)", x.as(1, -1), Due.BEYOND);
            for (int person : NOT_THERE) {
                Due.is("as of one not there", x.as(person, 0), Due.BEYOND);
            }
        }
    }

    private static void grind() {
        GrudgeGlasses x = Due.quayOf(Due.PERSON, Due.TWIN);
        Due.is("grind at nobody", x.grind(1), Due.STATE);
        Due.put(x, 1, 60, 0, 1, 1, 10, 44);
        Due.is("grind(1)", x.grind(1), 80);
        int[] want = {60, 0, 0, 0, 80, 0};
        for (int what = 1; what <= 6; what++) {
            Due.is("of(1, " + what + ") once ground", x.of(1, what), want[what - 1]);
        }
        Due.put(x, 1, 99, 1);
        Due.is("grind(1) at itself", x.grind(1), 99);
        Due.is("of(1, 4)", x.of(1, 4), 1);
        for (int person : NOT_THERE) {
            Due.is("grind of one not there", x.grind(person), Due.BEYOND);
        }
    }

    private static void lend() {
        GrudgeGlasses x = Due.quayOf(Due.PERSON, Due.BRIDE);
        Due.put(x, 0, 11, 0, 1, 1, 40, 3);
        Due.put(x, 1, 22, 1, 0, -1, 50, 4);
        Due.is("lend(0, 1)", x.lend(0, 1), 1);
        int[] zero = {0, 11, 0, 1, -1, 50, 4};
        int[] one = {2, 22, 1, 0, 1, 40, 3};
        for (int what = 0; what <= 6; what++) {
            Due.is("of(0, " + what + ") once lent", x.of(0, what), zero[what]);
            Due.is("of(1, " + what + ") once lent", x.of(1, what), one[what]);
        }
        Due.is("lend(1, 1)", x.lend(1, 1), Due.BEYOND);
        for (int person : NOT_THERE) {
            Due.is("lend to one not there", x.lend(0, person), Due.BEYOND);
            Due.is("lend of one not there", x.lend(person, 0), Due.BEYOND);
        }
    }

    /** Number 2 of five looks at the others through a pair that shows 1, then 3. */
    private static void looksOfEachKind() {
        int[][] atOne = {{40, 5, 5}, {40, 10, 5}, {80, 5, 5}, {10, 10, 10}, {45, 10, 5}, {80, 5, 5}};
        int[][] atThree = {{5, 40, 5}, {5, 45, 5}, {10, 40, 5}, {10, 10, 10}, {10, 45, 5}, {10, 40, 5}};
        for (int kind = 0; kind < 6; kind++) {
            GrudgeGlasses x = Due.quayOf(0, 0, kind, 0, 0);
            int[] others = {1, 3, 4};
            Due.put(x, 2, 20, -1, 0, 1, 51, 11);
            for (int i = 0; i < 3; i++) {
                Due.is("looks(2, " + others[i] + ") of " + kind, x.looks(2, others[i]), atOne[kind][i]);
            }
            x.set(2, 4, 3);
            for (int i = 0; i < 3; i++) {
                Due.is("looks(2, " + others[i] + ") of " + kind, x.looks(2, others[i]), atThree[kind][i]);
            }
            Due.put(x, 2, 20, -1, 0, 3, 11, 51);
            int[] least = {0, 5, 0, 10, 5, 5};
            Due.is("looks(2, 3) through a worn pair of " + kind, x.looks(2, 3), least[kind]);
            x.set(2, 3, 1);
            for (int other : others) {
                Due.is("looks(2, " + other + ") up of " + kind, x.looks(2, other), 50);
            }
        }
        GrudgeGlasses x = Due.quayOf(0, 0);
        Due.put(x, 0, 20, -1, 0, -1, 99, 1);
        Due.is("looks(0, 1) by half of 1", x.looks(0, 1), 0);
    }

    private static void looksRefuses() {
        GrudgeGlasses x = Due.quayOf(0, 0);
        Due.is("looks(0, 0)", x.looks(0, 0), Due.BEYOND);
        for (int person : NOT_THERE) {
            Due.is("looks at one not there", x.looks(0, person), Due.BEYOND);
            Due.is("looks of one not there", x.looks(person, 0), Due.BEYOND);
        }
    }

    private static void sees() {
        GrudgeGlasses x = Due.quayOf(0, 0, Due.BRIDE, 0);
        Due.put(x, 2, 20, -1, 0, 1, 99, 0);
        Due.is("sees(2, 198)", x.sees(2, 198), 2);
        Due.is("sees(2, 1)", x.sees(2, 1), 2);
        Due.is("sees(2, 0)", x.sees(2, 0), 11);
        x.set(2, 6, 60);
        Due.is("sees(2, 30)", x.sees(2, 30), 11);
        Due.is("sees(2, 31)", x.sees(2, 31), 3);
        Due.is("sees(2, 60)", x.sees(2, 60), 3);
        Due.is("sees(2, 61)", x.sees(2, 61), 2);
        Due.is("sees(2, 78)", x.sees(2, 78), 2);
        Due.is("sees(2, 79)", x.sees(2, 79), 0);
        x.set(2, 4, 2);
        Due.is("sees(2, 0) that shows itself", x.sees(2, 0), 11);
        Due.is("sees(2, 199)", x.sees(2, 199), Due.BEYOND);
        Due.is("sees(2, -1)", x.sees(2, -1), Due.BEYOND);
        Due.is("sees(4, 0)", x.sees(4, 0), Due.BEYOND);
        Due.is("sees(-1, 0)", x.sees(-1, 0), Due.BEYOND);
    }
}
