/** Promises 24 to 26: feed, wipe, quay. */
public final class TextTest {
    public static void main(String[] args) {
        feed();
        feedIsFull();
        wipe();
        items();
        itemsComeToWhatThereIs();
        numbersAndBlanks();
        faults();
        faultsChangeNothing();
        theNinth();
        manyItems();
        manyBlanks();
        Due.end();
    }

    private static void feed() {
        GrudgeGlasses x = new GrudgeGlasses();
        Due.is("feed(saint)", x.feed(0x7fff7361, 2), 2);
        Due.is("feed(saint)", x.feed(0x12696e74, 3), 5);
        Due.is("feed(;)", x.feed(0x6161613b, 1), 6);
        Due.is("feed(twin)", x.feed(0x7477696e, 4), 10);
        Due.is("feed(0, 0)", x.feed(0, 0), Due.BEYOND);
        Due.is("feed(0, 5)", x.feed(0, 5), Due.BEYOND);
        Due.is("feed(0, -1)", x.feed(0, -1), Due.BEYOND);
        Due.is("count(1)", x.count(1), 10);
        Due.is("quay()", x.quay(), 2);
        Due.is("of(0, 0)", x.of(0, 0), Due.SAINT);
        Due.is("of(1, 0)", x.of(1, 0), Due.TWIN);
        Due.is("count(1)", x.count(1), 0);
    }

    private static void feedIsFull() {
        GrudgeGlasses x = new GrudgeGlasses();
        for (int i = 1; i <= 29; i++) {
            Due.is("feed", x.feed(0x20202020, 4), 4 * i);
        }
        Due.is("feed(-1, 3)", x.feed(-1, 3), 119);
        Due.is("feed(0, 2) at 119", x.feed(0, 2), Due.FULL);
        Due.is("feed(0, 5) at 119", x.feed(0, 5), Due.BEYOND);
        Due.is("count(1)", x.count(1), 119);
        Due.is("feed(0, 1) at 119", x.feed(0, 1), 120);
        Due.is("feed(0, 1) at 120", x.feed(0, 1), Due.FULL);
        Due.is("quay() of bytes of 255", x.quay(), -1 - 116);
        Due.is("feed(0, 1) once empty", x.feed(0, 1), 1);
    }

    private static void wipe() {
        GrudgeGlasses x = new GrudgeGlasses();
        Due.is("wipe()", x.wipe(), 0);
        Due.feed(x, "person");
        Due.is("wipe()", x.wipe(), 6);
        Due.is("count(1)", x.count(1), 0);
        Due.quay(x, "saint", 1);
        Due.is("count(0)", x.count(0), 1);
    }

    private static void items() {
        String[] names = {"person", "brother", "bride", "saint", "twin", "widow"};
        for (int kind = 0; kind < 6; kind++) {
            GrudgeGlasses x = new GrudgeGlasses();
            Due.quay(x, names[kind], 1);
            ones(x, 0, kind, 20, -1, 0, -1, 0, 0);
            Due.quay(x, names[kind] + " grudge 0", 1);
            ones(x, 1, kind, 0, -1, 0, -1, 0, 0);
            Due.quay(x, names[kind] + " at 1", 1);
            ones(x, 2, kind, 20, 1, 0, -1, 0, 0);
            Due.quay(x, names[kind] + " grudge 99 at 3", 1);
            ones(x, 3, kind, 99, 3, 0, -1, 0, 0);
        }
        GrudgeGlasses x = new GrudgeGlasses();
        Due.quay(x, "person; twin grudge 60 at 0; up 0; grind 1; up 1; down 0", 6);
        ones(x, 0, Due.PERSON, 20, -1, 0, -1, 0, 0);
        ones(x, 1, Due.TWIN, 60, 0, 1, 0, 80, 0);
        x.set(1, 6, 9);
        Due.quay(x, "up 1; grind 1; down 1; up 0", 4);
        ones(x, 0, Due.PERSON, 20, -1, 1, -1, 0, 0);
        ones(x, 1, Due.TWIN, 60, 0, 0, 0, 80, 0);
    }

    private static void ones(GrudgeGlasses x, int person, int... want) {
        for (int what = 0; what < want.length; what++) {
            Due.is("of(" + person + ", " + what + ")", x.of(person, what), want[what]);
        }
    }

    private static void itemsComeToWhatThereIs() {
        GrudgeGlasses x = Due.quayOf(0, 0);
        x.set(1, 2, 0);
        x.days(3);
        Due.quay(x, "widow at 1;grind 2;grind 1", 3);
        Due.is("now(0)", x.now(0), 3);
        Due.is("count(0)", x.count(0), 3);
        ones(x, 1, Due.PERSON, 17, 0, 0, 0, 17, 0);
        ones(x, 2, Due.WIDOW, 20, 1, 0, 1, 30, 0);
    }

    private static void numbersAndBlanks() {
        GrudgeGlasses x = new GrudgeGlasses();
        Due.quay(x, "   person   grudge7at0   ;saint;up   1 ", 3);
        ones(x, 0, Due.PERSON, 7, 0, 0, -1, 0, 0);
        ones(x, 1, Due.SAINT, 20, -1, 1, -1, 0, 0);
        Due.quay(x, "bride grudge 099 at 002", 1);
        ones(x, 2, Due.BRIDE, 99, 2, 0, -1, 0, 0);
        Due.quay(x, "person grudge 100", -1 - 14);
        Due.quay(x, "person grudge 1000", -1 - 14);
        // So many that an int would wrap around, to 0 and to a small number.
        Due.quay(x, "person grudge 4294967296", -1 - 14);
        Due.quay(x, "person grudge 18446744073709551621", -1 - 14);
        Due.quay(x, "up 4294967296", -1 - 3);
    }

    private static void faults() {
        String[] texts = {
            "", " ", "   ", "person;", "person ; ", "person grudge", "person grudge  ", "person at", "up", "down ",
            "grind", "person grudge 5 at",
            ";", "person;;", "person person", "person 5", "5", "grudge 5", "at 0", "persons", "persona", "pers on",
            "person grudge at 0", "person at grudge", "person at 0 grudge 5", "person grudge 5 grudge 5",
            "person grudge ;", "person at ;", "person at 1", "person;person at 2", "up x", "up 0", "down 0",
            "grind 0", "person;grind 0", "person;up 1", "person;up 0 0", "person;up 0 at", "person at 0;grind 0 x",
            "Person", "person.", "person\t", "person\n;saint", "person,", "person grudge -5", "person grudge 5.",
            "person grudge +5", "person;UP 0", "person;u p 0", "person:", "pe\u0000", "\u00e9", "person\u00ff",
            "person;upp 0", "person;gri nd", "person grudge100", "person at 0 at 0", "person @", "person`", "person{",
            "personz", "qerson", "person grudge a", "person grudge z", "up a", "grind a",
            "person grudge /", "person grudge :", "widow at 0;down 0;up 1", "person grudge 12345678901234567890",
        };
        int[] places = {
            0, 1, 3, 7, 9, 13, 15, 9, 2, 5,
            5, 18,
            0, 7, 7, 7, 0, 0, 0, 0, 0, 0,
            14, 10, 12, 16,
            14, 10, 10, 17, 3, 3, 5,
            6, 13, 10, 12, 12, 20,
            0, 6, 6, 6, 6, 14, 15,
            14, 7, 7, 6, 0, 0, 6,
            7, 7, 13, 12, 7, 6, 6,
            0, 0, 14, 14, 3, 6,
            14, 14, 21, 14,
        };
        Due.is("as many places as texts", places.length, texts.length);
        for (int i = 0; i < texts.length; i++) {
            GrudgeGlasses x = new GrudgeGlasses();
            Due.quay(x, texts[i], -1 - places[i]);
            Due.is("count(0) after '" + texts[i] + "'", x.count(0), 0);
            Due.is("status(-1) after '" + texts[i] + "'", x.status(-1), 0);
        }
    }

    private static void faultsChangeNothing() {
        GrudgeGlasses x = Due.quayOf(0, 0);
        Due.put(x, 1, 60, 0, 1, 1, 7, 3);
        Due.quay(x, "grind 1; down 1; person grudge 5; up 0; nobody", -1 - 40);
        Due.is("count(0)", x.count(0), 2);
        ones(x, 0, Due.PERSON, 20, -1, 0, -1, 0, 0);
        ones(x, 1, Due.PERSON, 60, 0, 1, 1, 7, 3);
        Due.is("person(2)", x.person(2), 2);
        ones(x, 2, Due.BRIDE, 20, -1, 0, -1, 0, 0);
    }

    private static void theNinth() {
        GrudgeGlasses x = Due.quayOf(0, 0, 0, 0, 0, 0);
        Due.quay(x, "twin;saint; widow grudge", -1 - 12);
        Due.is("count(0)", x.count(0), 6);
        Due.quay(x, "twin;saint", 2);
        Due.is("count(0)", x.count(0), 8);
        Due.quay(x, "up 7 ;  bride", -1 - 8);
        Due.is("now(4)", x.now(4), 0);
        Due.quay(x, "up 7", 1);
        Due.is("now(4)", x.now(4), 128);
        Due.quay(x, "up 8", -1 - 3);
    }

    private static void manyItems() {
        GrudgeGlasses x = Due.quayOf(0);
        StringBuilder text = new StringBuilder("up0");
        for (int i = 1; i < 30; i++) {
            text.append(";up0");
        }
        Due.quay(x, text.toString(), 30);
        Due.is("now(4)", x.now(4), 1);
        Due.quay(x, text.append(";").toString(), -1 - 120);
    }

    private static void manyBlanks() {
        GrudgeGlasses x = Due.quayOf(0);
        String blanks = " ".repeat(100);
        Due.quay(x, blanks + "saint grudge 5 at 00", 1);
        Due.is("of(1, 1)", x.of(1, 1), 5);
        Due.quay(x, blanks + "up 0;up 1;     saint", 3);
        Due.is("now(4)", x.now(4), 3);
        Due.quay(x, blanks + "saint         grudge", -1 - 120);
    }
}
