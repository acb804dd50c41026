/** Promises 11 to 17: days, now, on, then, forgives, worn, unseen. */
public final class DaysTest {
    private static final int[] NOT_THERE = {-1, 2, 8, Integer.MAX_VALUE, Integer.MIN_VALUE};

    public static void main(String[] args) {
        days();
        daysHoldGrudges();
        daysWearPairs();
        daysHaveAnEnd();
        now();
        on();
        onPastTheLastDay();
        then();
        forgives();
        worn();
        unseen();
        Due.end();
    }

    private static void days() {
        GrudgeGlasses x = Due.quayOf(0, 1, 2, 3, 4, 5);
        Due.is("days(1)", x.days(1), 19 + 19 + 18 + 17 + 19 + 18);
        Due.is("days(7)", x.days(7), 12 + 12 + 4 + 0 + 12 + 4);
        Due.is("days(100)", x.days(100), 0);
        Due.is("now(0)", x.now(0), 108);
        Due.is("days(0)", x.days(0), Due.BEYOND);
        Due.is("days(-1)", x.days(-1), Due.BEYOND);
        Due.is("days(101)", x.days(101), Due.BEYOND);
        Due.is("days of very many", x.days(Integer.MAX_VALUE), Due.BEYOND);
        Due.is("now(0)", x.now(0), 108);
        Due.is("days(1) of nobody", new GrudgeGlasses().days(1), 0);
    }

    private static void daysHoldGrudges() {
        GrudgeGlasses x = Due.quayOf(Due.TWIN, Due.SAINT, Due.WIDOW);
        Due.put(x, 0, 97, 0, 0, 0, 99, 0);
        Due.put(x, 1, 2);
        Due.put(x, 2, 1, -1, 1);
        Due.is("days(1)", x.days(1), 99);
        Due.is("of(0, 1)", x.of(0, 1), 99);
        Due.is("of(1, 1)", x.of(1, 1), 0);
        Due.is("of(2, 1)", x.of(2, 1), 0);
    }

    /** What is forgiven goes by the grudge and the look as the day begins; the pair wears by the grudge then. */
    private static void daysWearPairs() {
        GrudgeGlasses x = Due.quayOf(Due.BROTHER, Due.PERSON, Due.PERSON, Due.PERSON, Due.PERSON);
        Due.put(x, 0, 51, -1, 0, -1, 52, 0);
        Due.put(x, 1, 20, -1, 0, -1, 20, 0);
        Due.put(x, 2, 20, -1, 1, -1, 99, 0);
        Due.put(x, 3, 20, -1, 0, -1, 19, 0);
        Due.put(x, 4, 20, -1, 0, -1, 99, 99);
        Due.is("days(1)", x.days(1), 51 + 19 * 4);
        int[] worn = {1, 1, 0, 0, 99};
        for (int k = 0; k < worn.length; k++) {
            Due.is("of(" + k + ", 6)", x.of(k, 6), worn[k]);
        }
        Due.is("days(1)", x.days(1), 51 + 18 * 4);
        int[] next = {2, 2, 0, 1, 99};
        for (int k = 0; k < next.length; k++) {
            Due.is("of(" + k + ", 6)", x.of(k, 6), next[k]);
        }
    }

    private static void daysHaveAnEnd() {
        GrudgeGlasses x = Due.quayOf(0);
        for (int i = 0; i < 99; i++) {
            x.days(100);
        }
        Due.is("now(0)", x.now(0), 9900);
        Due.is("days(100)", x.days(100), Due.STATE);
        Due.is("days(101)", x.days(101), Due.BEYOND);
        x.set(0, 1, 99);
        Due.is("days(99)", x.days(99), 0);
        Due.is("now(0)", x.now(0), 9999);
        x.set(0, 1, 9);
        Due.is("days(1)", x.days(1), Due.STATE);
        Due.is("of(0, 1)", x.of(0, 1), 9);
        Due.is("status(4)", x.status(4), 2);
    }

    private static void now() {
        GrudgeGlasses x = Due.quayOf(0, 0, 0);
        int[] atFirst = {0, 60, 0, 0, 0};
        for (int what = 0; what < 5; what++) {
            Due.is("now(" + what + ")", x.now(what), atFirst[what]);
        }
        Due.put(x, 0, 0, -1, 0, 0, 99, 0);
        Due.put(x, 1, 5, -1, 1, -1, 0, 0);
        Due.put(x, 2, 0, -1, 0, 1, 30, 1);
        int[] want = {0, 5, 5, 5, 2};
        for (int what = 0; what < 5; what++) {
            Due.is("now(" + what + ")", x.now(what), want[what]);
        }
        x.set(2, 5, 31);
        Due.is("now(3) with one more seen as sharply as 30", x.now(3), 7);
        Due.is("now(5)", x.now(5), Due.BEYOND);
        Due.is("now(-1)", x.now(-1), Due.BEYOND);
    }

    private static void on() {
        GrudgeGlasses x = Due.quayOf(0, Due.TWIN);
        Due.put(x, 1, 60, 0, 0, 0, 90, 0);
        int[] grudge = {60, 64, 68, 72, 76, 80, 84, 88, 92, 96, 99, 99};
        int[] worn = {0, 1, 2, 3, 4, 5, 6, 7, 7, 7, 7, 7};
        for (int n = 0; n < grudge.length; n++) {
            Due.is("on(1, " + n + ", 0)", x.on(1, n, 0), grudge[n]);
            Due.is("on(1, " + n + ", 1)", x.on(1, n, 1), worn[n]);
        }
        Due.is("on(0, 200, 0)", x.on(0, 200, 0), 0);
        Due.is("of(1, 1)", x.of(1, 1), 60);
        Due.is("of(1, 6)", x.of(1, 6), 0);
        Due.is("now(0)", x.now(0), 0);
        Due.is("on(0, 201, 0)", x.on(0, 201, 0), Due.BEYOND);
        Due.is("on(0, -1, 0)", x.on(0, -1, 0), Due.BEYOND);
        Due.is("on(0, 0, -1)", x.on(0, 0, -1), Due.BEYOND);
        Due.is("on(0, 0, 2)", x.on(0, 0, 2), Due.BEYOND);
        for (int person : NOT_THERE) {
            Due.is("on of one not there", x.on(person, 0, 0), Due.BEYOND);
        }
    }

    private static void onPastTheLastDay() {
        GrudgeGlasses x = Due.quayOf(0, 0);
        for (int i = 0; i < 99; i++) {
            x.days(100);
        }
        x.days(99);
        x.set(0, 1, 50);
        Due.is("on(0, 10, 0) on day 9999", x.on(0, 10, 0), 40);
        Due.is("forgives(0) on day 9999", x.forgives(0), 50);
        Due.is("sharpest(100) on day 9999", x.sharpest(100), 0);
        Due.is("unseen(0) on day 9999", x.unseen(0), 0);
        Due.is("now(0)", x.now(0), 9999);
    }

    private static void then() {
        GrudgeGlasses x = Due.quayOf(0, 0, 0);
        Due.put(x, 0, 20, -1, 0, 1, 99, 0);
        for (int n = 0; n <= 200; n += 20) {
            Due.is("then(0, 1, " + n + ")", x.then(0, 1, n), n < 99 ? 99 - n : 0);
            Due.is("then(0, 2, " + n + ")", x.then(0, 2, n), Math.min(99, n) / 2);
        }
        Due.is("looks(0, 1)", x.looks(0, 1), 99);
        Due.is("then(0, 0, 1)", x.then(0, 0, 1), Due.BEYOND);
        Due.is("then(0, 1, 201)", x.then(0, 1, 201), Due.BEYOND);
        Due.is("then(0, 1, -1)", x.then(0, 1, -1), Due.BEYOND);
        Due.is("then(0, 3, 1)", x.then(0, 3, 1), Due.BEYOND);
        Due.is("then(3, 0, 1)", x.then(3, 0, 1), Due.BEYOND);
    }

    private static void forgives() {
        GrudgeGlasses x = Due.quayOf(0, Due.BROTHER);
        Due.is("forgives(0)", x.forgives(0), 20);
        x.set(0, 1, 0);
        Due.is("forgives(0) of none", x.forgives(0), 0);
        Due.put(x, 1, 50);
        Due.is("forgives(1) of 50", x.forgives(1), 50);
        Due.put(x, 1, 51);
        Due.is("forgives(1) of 51", x.forgives(1), Due.NONE);
        // It looks as sharply as 30 or more till its pair is worn so far, at a day for each.
        Due.put(x, 0, 98, 1, 0, 1, 99, 30);
        Due.is("on(0, 40, 0)", x.on(0, 40, 0), 99);
        Due.put(x, 0, 90, 1, 0, 1, 99, 40);
        Due.is("forgives(0) once it is worn", x.forgives(0), 30 + 90);
        Due.is("of(0, 1)", x.of(0, 1), 90);
        for (int person : NOT_THERE) {
            Due.is("forgives of one not there", x.forgives(person), Due.BEYOND);
        }
        latestForgiven();
    }

    /** Told is what the days themselves say; none takes longer than 168 of them. */
    private static void latestForgiven() {
        int latest = 0;
        for (int grudge = 0; grudge <= 99; grudge++) {
            GrudgeGlasses x = Due.quayOf(0);
            for (int worn = 0; worn <= 99; worn += 9) {
                x.set(0, 1, grudge);
                x.set(0, 2, 0);
                x.set(0, 4, 0);
                x.set(0, 5, 99);
                x.set(0, 6, worn);
                int days = x.forgives(0);
                if (days != Due.NONE) {
                    latest = Math.max(latest, days);
                    Due.is("on(0, forgives(0), 0)", x.on(0, days, 0), 0);
                    Due.isTrue("a day less", days == 0 || x.on(0, days - 1, 0) > 0);
                } else {
                    Due.isTrue("on(0, 200, 0) of none", x.on(0, 200, 0) > 0);
                }
            }
        }
        Due.is("the longest that it takes", latest, 168);
    }

    private static void worn() {
        GrudgeGlasses x = Due.quayOf(0, 0);
        Due.is("worn(0) of no power", x.worn(0), 0);
        Due.put(x, 0, 10, -1, 0, 1, 30, 12);
        Due.is("worn(0)", x.worn(0), 18);
        Due.put(x, 0, 40, -1, 0, 1, 30, 12);
        Due.is("worn(0) once the grudge is below", x.worn(0), 10 + 18);
        Due.put(x, 0, 40, -1, 0, 1, 30, 30);
        Due.is("worn(0) as worn as its power", x.worn(0), 0);
        Due.put(x, 0, 0, -1, 0, 1, 99, 0);
        Due.is("worn(0) of 99", x.worn(0), 99);
        x.set(0, 3, 1);
        Due.is("worn(0) up", x.worn(0), Due.NONE);
        Due.is("of(0, 6)", x.of(0, 6), 0);
        for (int person : NOT_THERE) {
            Due.is("worn of one not there", x.worn(person), Due.BEYOND);
        }
    }

    private static void unseen() {
        GrudgeGlasses x = Due.quayOf(0, 0, 0);
        Due.is("unseen(0) at first", x.unseen(0), 0);
        // 0 sees 1 till its pair, of 99, is worn by 70, and 2 from 60 on; 1 sees 2 for ten days.
        Due.put(x, 0, 0, -1, 0, 1, 99, 0);
        Due.put(x, 1, 0, -1, 0, 2, 39, 0);
        Due.is("unseen(1)", x.unseen(1), 70);
        Due.is("unseen(2)", x.unseen(2), 10);
        Due.is("unseen(0)", x.unseen(0), 0);
        Due.put(x, 2, 0, -1, 0, 2, 99, 0);
        Due.is("unseen(2) that sees itself", x.unseen(2), 10);
        Due.put(x, 1, 0, -1, 1);
        Due.is("unseen(2) with one up", x.unseen(2), Due.NONE);
        Due.is("unseen(1) that is up", x.unseen(1), Due.NONE);
        Due.is("of(0, 6)", x.of(0, 6), 0);
        Due.is("now(0)", x.now(0), 0);
        Due.is("unseen(3)", x.unseen(3), Due.BEYOND);
        Due.is("unseen(-1)", x.unseen(-1), Due.BEYOND);
    }
}
