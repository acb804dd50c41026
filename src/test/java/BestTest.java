/** Promises 18 to 23: borrow, kind, better, most, sharpest, push. */
public final class BestTest {
    private static final int[] NOT_THERE = {-1, 3, 8, Integer.MAX_VALUE, Integer.MIN_VALUE};

    public static void main(String[] args) {
        borrow();
        kind();
        better();
        most();
        mostIsNotBelowAllThatGo();
        sharpest();
        push();
        eight();
        Due.end();
    }

    private static void borrow() {
        GrudgeGlasses x = Due.quayOf(0, 0, 0);
        Due.is("borrow(0) where all are alike", x.borrow(0), Due.NONE);
        Due.put(x, 0, 20, 1, 0, 1, 99, 0);
        Due.is("borrow(0) of several", x.borrow(0), 1);
        Due.put(x, 1, 20, -1, 0, 1, 59, 0);
        Due.is("borrow(0) of the one that shows another", x.borrow(0), 2);
        Due.put(x, 2, 20, -1, 0, 1, 49, 0);
        Due.is("forgives(0) as it is", x.forgives(0), 70 + 60);
        Due.is("borrow(0) of the sooner", x.borrow(0), 2);
        x.set(1, 5, 40);
        Due.is("borrow(0) of the now sooner", x.borrow(0), 1);
        Due.is("of(0, 5) after", x.of(0, 5), 99);
        Due.is("of(1, 5) after", x.of(1, 5), 40);
        x.set(0, 3, 1);
        Due.is("borrow(0) that is up", x.borrow(0), Due.NONE);
        x.set(0, 3, 0);
        x.set(0, 1, 0);
        Due.is("borrow(0) without a grudge", x.borrow(0), Due.NONE);
        Due.put(x, 2, 20, 1, 0, 1, 99, 0);
        Due.put(x, 0, 20, -1, 0, 0, 50, 0);
        Due.is("borrow(2) of the first", x.borrow(2), 0);
        for (int person : NOT_THERE) {
            Due.is("borrow of one not there", x.borrow(person), Due.BEYOND);
        }
        Due.is("borrow(0) alone", Due.quayOf(0).borrow(0), Due.NONE);
    }

    private static void kind() {
        GrudgeGlasses x = Due.quayOf(Due.TWIN, 0, 0);
        Due.is("kind(0)", x.kind(0), Due.SAINT);
        int[] soonest = {Due.PERSON, Due.PERSON, Due.BRIDE, Due.SAINT, Due.BRIDE, Due.SAINT};
        for (int grudge = 0; grudge < soonest.length; grudge++) {
            x.set(0, 1, grudge);
            Due.is("kind(0) of " + grudge, x.kind(0), soonest[grudge]);
        }
        Due.is("of(0, 0)", x.of(0, 0), Due.TWIN);
        Due.put(x, 0, 99, 0, 1);
        Due.is("kind(0) up", x.kind(0), Due.SAINT);
        for (int person : NOT_THERE) {
            Due.is("kind of one not there", x.kind(person), Due.BEYOND);
        }
    }

    private static void better() {
        GrudgeGlasses x = Due.quayOf(0, Due.BROTHER, 0);
        Due.put(x, 1, 60, 2, 0, 2, 99, 0);
        Due.is("better(1, 10), nobody", x.better(1, 10), 0);
        Due.is("of(1, 2)", x.of(1, 2), 2);
        // Up, at nobody it forgives; with none to forgive it is nobody too.
        Due.put(x, 0, 20, 1, 1);
        Due.is("better(0, 1) up", x.better(0, 1), 0);
        Due.put(x, 0, 0, 1, 0, 1, 99, 0);
        Due.is("better(0, 1) of none", x.better(0, 1), 0);
        Due.is("better(0, 60)", x.better(0, 60), 0);
        Due.is("better(0, 0)", x.better(0, 0), Due.BEYOND);
        Due.is("better(0, 61)", x.better(0, 61), Due.BEYOND);
        Due.is("better(0, -1)", x.better(0, -1), Due.BEYOND);
        for (int person : NOT_THERE) {
            Due.is("better of one not there", x.better(person, 1), Due.BEYOND);
        }
    }

    private static void most() {
        GrudgeGlasses x = Due.quayOf(0, Due.SAINT, Due.BROTHER);
        for (int n = 1; n <= 60; n++) {
            Due.is("most(0, " + n + ")", x.most(0, n), n);
            Due.is("most(1, " + n + ")", x.most(1, n), Math.min(99, 3 * n));
            Due.is("most(2, " + n + ")", x.most(2, n), Math.min(50, n));
        }
        Due.is("of(0, 1)", x.of(0, 1), 20);
        Due.put(x, 0, 20, 0, 0, 0, 99, 0);
        Due.is("most(0, 1) of one that only grudges more", x.most(0, 1), Due.NONE);
        Due.put(x, 0, 20, 0, 1);
        Due.is("most(0, 60) of one that stays so", x.most(0, 60), 0);
        Due.is("most(0, 0)", x.most(0, 0), Due.BEYOND);
        Due.is("most(0, 61)", x.most(0, 61), Due.BEYOND);
        for (int person : NOT_THERE) {
            Due.is("most of one not there", x.most(person, 1), Due.BEYOND);
        }
    }

    /** What most answers is what on answers, tried from above. */
    private static void mostIsNotBelowAllThatGo() {
        for (int power = 0; power <= 99; power += 11) {
            GrudgeGlasses x = Due.quayOf(Due.BRIDE, 0);
            Due.put(x, 0, 20, 1, 0, 1, power, 0);
            int answer = x.most(0, 60);
            int want = Due.NONE;
            for (int grudge = 0; grudge <= 99; grudge++) {
                x.set(0, 1, grudge);
                want = x.on(0, 60, 0) == 0 ? grudge : want;
            }
            Due.is("most(0, 60) with " + power, answer, want);
        }
    }

    private static void sharpest() {
        GrudgeGlasses x = new GrudgeGlasses();
        Due.is("sharpest(101) of nobody", x.sharpest(101), Due.BEYOND);
        Due.is("sharpest(0) of nobody", x.sharpest(0), Due.NONE);
        x.person(0);
        Due.is("sharpest(0) alone", x.sharpest(0), 0);
        x.person(0);
        x.person(0);
        Due.is("sharpest(0) of several", x.sharpest(0), 0);
        Due.put(x, 1, 0, -1, 0, 0, 50, 0);
        Due.is("sharpest(0)", x.sharpest(0), 1);
        Due.put(x, 0, 0, -1, 0, 0, 99, 0);
        Due.is("sharpest(0) with one that sees itself", x.sharpest(0), 1);
        // 1 wears out to (50 - n) and half of n; 0 to two halves of n.
        Due.is("sharpest(60)", x.sharpest(60), 0);
        Due.put(x, 2, 20, -1, 0, 1, 50, 0);
        Due.is("sharpest(0) of two alike", x.sharpest(0), 1);
        x.set(2, 3, 1);
        Due.is("sharpest(0) of one up", x.sharpest(0), 2);
        Due.is("sharpest(100)", x.sharpest(100), 2);
        Due.is("of(0, 6)", x.of(0, 6), 0);
        Due.is("now(0)", x.now(0), 0);
        Due.is("sharpest(-1)", x.sharpest(-1), Due.BEYOND);
        Due.is("sharpest(101)", x.sharpest(101), Due.BEYOND);
    }

    private static void push() {
        GrudgeGlasses x = new GrudgeGlasses();
        Due.is("push() of nobody", x.push(), Due.NONE);
        x.person(0);
        Due.is("push() of one", x.push(), Due.NONE);
        x.set(0, 3, 1);
        Due.is("push() of one up", x.push(), Due.NONE);
        x.set(0, 3, 0);
        x.person(0);
        Due.is("push() of two", x.push(), 3);
        x.person(0);
        Due.is("push() of three", x.push(), 3);
        Due.is("now(4) after", x.now(4), 0);
        Due.put(x, 0, 20, -1, 0, 1, 30, 0);
        Due.is("push() of the one that is seen", x.push(), 2);
        Due.put(x, 0, 20, -1, 0, 2, 30, 0);
        Due.is("push() of the other that is seen", x.push(), 4);
        Due.put(x, 1, 20, -1, 0, 0, 30, 0);
        Due.is("push() of the least of two", x.push(), 1);
        Due.put(x, 2, 20, -1, 0, 1, 30, 0);
        Due.is("push() where all are seen", x.push(), 0);
        x.set(2, 6, 1);
        Due.is("push() where one is no more seen", x.push(), 1);
        x.set(1, 3, 1);
        Due.is("push() with one up", x.push(), 1);
        x.set(1, 3, 0);
        x.set(0, 3, 1);
        Due.is("push() with another up", x.push(), 0);
    }

    /** As many as there may be: the last of them counts as all others do. */
    private static void eight() {
        GrudgeGlasses x = Due.quayOf(0, 0, 0, 0, 0, 0, 0, 0);
        Due.put(x, 7, 20, 7, 0, 0, 99, 0);
        Due.is("sharpest(5)", x.sharpest(5), 7);
        Due.is("push() of the one that is seen", x.push(), 1);
        Due.is("unseen(0)", x.unseen(0), 70);
        Due.is("borrow(7)", x.borrow(7), Due.NONE);
        Due.is("better(7, 60)", x.better(7, 60), 0);
        Due.is("image()", x.image(), 1);
        Due.is("days(1)", x.days(1), 8 * 19);
        Due.is("count(3)", x.count(3), 1);
        Due.is("now(3)", x.now(3), 1);
        Due.is("undo()", x.undo(), 8);
        Due.is("now(1)", x.now(1), 8 * 20);
        Due.is("now(2)", x.now(2), 0);
        Due.is("count(2)", x.count(2), 7);
    }
}
