/** Counts the answers that are not the ones that are due; a test ends with exit code 1 if there was one. */
final class Due {
    static final int BEYOND = -1000000001;
    static final int FULL = -1000000002;
    static final int KIND = -1000000003;
    static final int NONE = -1000000004;
    static final int STATE = -1000000005;
    static final int MISSING = -1000000006;
    static final int SIZE = -1000000007;

    static final int PERSON = 0;
    static final int BROTHER = 1;
    static final int BRIDE = 2;
    static final int SAINT = 3;
    static final int TWIN = 4;
    static final int WIDOW = 5;

    private static int told = 0;
    private static int wrong = 0;

    private Due() {
    }

    static void is(String call, long got, long want) {
        told++;
        if (got != want) {
            wrong++;
            System.out.println(call + " answered " + got + ", due is " + want);
        }
    }

    static void isTrue(String what, boolean holds) {
        is(what, holds ? 1 : 0, 1);
    }

    static void end() {
        System.out.println((told - wrong) + " of " + told + " answers are as due");
        if (wrong != 0 || told == 0) {
            System.exit(1);
        }
    }

    /** A quay of people of these kinds. */
    static GrudgeGlasses quayOf(int... kinds) {
        GrudgeGlasses x = new GrudgeGlasses();
        for (int k = 0; k < kinds.length; k++) {
            is("person(" + kinds[k] + ")", x.person(kinds[k]), k);
        }
        return x;
    }

    /** Sets GRUDGE, AT, UP, SHOWS, POWER and WORN of one. */
    static void put(GrudgeGlasses x, int person, int... v) {
        for (int i = 0; i < v.length; i++) {
            x.set(person, i + 1, v[i]);
            is("of(" + person + ", " + (i + 1) + ") once set", x.of(person, i + 1), v[i]);
        }
    }

    /** Puts a text on the tape, byte by byte. */
    static void feed(GrudgeGlasses x, String text) {
        for (int i = 0; i < text.length(); i++) {
            is("feed(" + (int) text.charAt(i) + ", 1)", x.feed(text.charAt(i), 1), i + 1);
        }
    }

    static void quay(GrudgeGlasses x, String text, int want) {
        feed(x, text);
        is("quay() of '" + text + "'", x.quay(), want);
        is("count(1) after quay()", x.count(1), 0);
    }
}
