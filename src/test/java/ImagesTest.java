/** Promises 33 to 37: image, undo, tear, count, status. */
public final class ImagesTest {
    public static void main(String[] args) {
        imageKeepsAll();
        whatIsNotKept();
        latestStays();
        tear();
        undoOfMoreAndFewer();
        count();
        status();
        findingsChangeNothing();
        Due.end();
    }

    private static void imageKeepsAll() {
        GrudgeGlasses x = Due.quayOf(Due.TWIN, Due.BRIDE);
        int[] zero = {4, 41, 1, 1, 0, 50, 6};
        int[] one = {2, 42, -1, 0, -1, 0, 0};
        Due.put(x, 0, 41, 1, 1, 0, 50, 6);
        Due.put(x, 1, 42);
        x.days(1);
        Due.put(x, 0, 41, 1, 1, 0, 50, 6);
        Due.put(x, 1, 42);
        Due.is("image()", x.image(), 1);
        x.turn(0, 0);
        x.turn(1, 0);
        Due.put(x, 0, 1, -1, 0, 1, 2, 3);
        Due.put(x, 1, 4, 0, 1, 0, 5, 6);
        x.person(0);
        x.days(5);
        Due.is("undo()", x.undo(), 2);
        Due.is("now(0)", x.now(0), 1);
        Due.is("count(0)", x.count(0), 2);
        for (int what = 0; what <= 6; what++) {
            Due.is("of(0, " + what + ")", x.of(0, what), zero[what]);
            Due.is("of(1, " + what + ")", x.of(1, what), one[what]);
        }
    }

    private static void whatIsNotKept() {
        GrudgeGlasses x = Due.quayOf(0);
        Due.feed(x, "person");
        x.sheet(0, 8, 2);
        x.image();
        Due.is("wipe()", x.wipe(), 6);
        Due.feed(x, "up");
        x.write(0, 1, 9);
        x.sheet(1, 64, 3);
        x.person(-1);
        Due.is("undo()", x.undo(), 1);
        Due.is("count(1)", x.count(1), 2);
        Due.is("write(0, 1, 0)", x.write(0, 1, 0), 9);
        Due.is("write(1, 2, 0)", x.write(1, 2, 0), 0);
        Due.is("status(0)", x.status(0), 1);
    }

    private static void latestStays() {
        GrudgeGlasses x = Due.quayOf(0);
        x.image();
        x.set(0, 1, 30);
        x.image();
        for (int i = 0; i < 3; i++) {
            x.set(0, 1, 40 + i);
            Due.is("undo()", x.undo(), 1);
            Due.is("of(0, 1)", x.of(0, 1), 30);
        }
    }

    private static void tear() {
        GrudgeGlasses x = new GrudgeGlasses();
        Due.is("tear()", x.tear(), 0);
        Due.is("undo()", x.undo(), Due.NONE);
        Due.is("image() of nobody", x.image(), 1);
        Due.is("undo() to nobody", x.undo(), 0);
        x.image();
        Due.is("tear()", x.tear(), 1);
        Due.is("tear()", x.tear(), 0);
        x.person(0);
        Due.is("undo()", x.undo(), Due.NONE);
        Due.is("count(0)", x.count(0), 1);
        x.image();
        x.person(0);
        Due.is("undo()", x.undo(), 1);
    }

    private static void undoOfMoreAndFewer() {
        GrudgeGlasses x = Due.quayOf(0, 1, 2);
        Due.put(x, 2, 50, 2, 1, 2, 60, 7);
        x.image();
        Due.quay(x, "saint;twin grudge 5 at 2", 2);
        Due.put(x, 3, 77, 0, 1, 4, 66, 55);
        Due.is("undo()", x.undo(), 3);
        Due.is("person(5)", x.person(5), 3);
        int[] fresh = {5, 20, -1, 0, -1, 0, 0};
        for (int what = 0; what < fresh.length; what++) {
            Due.is("of(3, " + what + ")", x.of(3, what), fresh[what]);
        }
        Due.is("set(0, 2, 4)", x.set(0, 2, 4), Due.BEYOND);
    }

    private static void count() {
        GrudgeGlasses x = Due.quayOf(0, 0, 0);
        Due.feed(x, "abc");
        int[] atFirst = {3, 3, 3, 0};
        for (int what = 0; what < 4; what++) {
            Due.is("count(" + what + ")", x.count(what), atFirst[what]);
        }
        Due.put(x, 0, 20, -1, 0, 0, 0, 99);
        Due.put(x, 2, 20, -1, 1, 1, 0, 7);
        int[] want = {3, 3, 1, 106};
        for (int what = 0; what < 4; what++) {
            Due.is("count(" + what + ")", x.count(what), want[what]);
        }
        x.image();
        x.person(0);
        x.set(3, 6, 9);
        x.undo();
        Due.is("count(2)", x.count(2), 1);
        Due.is("count(3)", x.count(3), 106);
        Due.is("count(4)", x.count(4), Due.BEYOND);
        Due.is("count(-1)", x.count(-1), Due.BEYOND);
    }

    private static void status() {
        GrudgeGlasses x = new GrudgeGlasses();
        for (int k = 0; k < 8; k++) {
            x.person(Due.SAINT);
        }
        x.image();
        x.person(7);
        x.person(0);
        x.person(0);
        x.as(0, 1);
        x.undo();
        x.grind(0);
        x.lays(0);
        x.write(0, 0, 0);
        x.write(0, 0, 0);
        x.sheet(0, 8, -1);
        x.tear();
        x.undo();
        x.undo();
        x.undo();
        int[] want = {1, 2, 1, 3, 1, 3, 1};
        for (int which = 0; which < 7; which++) {
            Due.is("status(" + which + ")", x.status(which), want[which]);
        }
        Due.is("status(-1)", x.status(-1), 12);
        Due.is("status(7)", x.status(7), Due.BEYOND);
        Due.is("status(-2)", x.status(-2), Due.BEYOND);
        Due.is("status(0)", x.status(0), 3);
        Due.is("status(-1)", x.status(-1), 14);
        x.feed(0, 9);
        x.write(9, 0, 0);
        Due.is("status(0)", x.status(0), 5);
    }

    private static void findingsChangeNothing() {
        GrudgeGlasses x = Due.quayOf(0, 0);
        Due.put(x, 0, 33, 1, 1, 0, 50, 6);
        x.grind(1);
        x.lend(0, 0);
        x.lend(0, 2);
        x.turn(0, 6);
        x.set(0, 1, 100);
        x.days(0);
        int[] want = {0, 33, 1, 1, 0, 50, 6};
        for (int what = 0; what <= 6; what++) {
            Due.is("of(0, " + what + ")", x.of(0, what), want[what]);
        }
        Due.is("of(1, 4)", x.of(1, 4), -1);
        Due.is("now(0)", x.now(0), 0);
    }
}
