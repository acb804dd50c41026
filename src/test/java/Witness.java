import java.util.ArrayList;
import java.util.List;

/**
 * All that an object tells of one part of its state. Asking changes the object, so it is asked of one that the same
 * calls have made anew.
 */
final class Witness {
    enum Part { PEOPLE, SHEETS, TAPE, TEXT, KEPT, STATUS }

    private final GrudgeGlasses x = new GrudgeGlasses();
    private final List<Long> told = new ArrayList<>();

    private Witness(List<Edges.Row> rows) {
        for (Edges.Row row : rows) {
            Calls.answer(x, row.call(), row.arguments());
        }
    }

    static List<Long> of(Part part, List<Edges.Row> rows) {
        Witness w = new Witness(rows);
        switch (part) {
            case PEOPLE:
                w.tellPeople();
                break;
            case SHEETS:
                w.tellSheets();
                break;
            case TAPE:
                w.tell(w.x.count(1));
                break;
            case TEXT:
                // The bytes are told by where the text fails, or by what comes of it: by those that are there, too.
                w.tell(w.x.quay());
                w.tellPeople();
                break;
            case KEPT:
                w.tellKept();
                break;
            default:
                w.tellStatus();
                break;
        }
        return w.told;
    }

    private void tell(long answer) {
        told.add(answer);
    }

    private void tellStatus() {
        for (int which = -1; which <= 6; which++) {
            tell(x.status(which));
        }
    }

    private void tellPeople() {
        int people = x.count(0);
        tell(people);
        tell(x.now(0));
        for (int k = 0; k < people; k++) {
            for (int what = 0; what <= 6; what++) {
                tell(x.of(k, what));
            }
        }
    }

    private void tellKept() {
        int people = x.undo();
        tell(people);
        if (people >= 0) {
            tellPeople();
        }
        tell(x.tear());
    }

    private void tellSheets() {
        for (int s = 0; s < 4; s++) {
            for (int t = 0; t < s; t++) {
                tell(x.copy(s, 0, t, 0, 0));
            }
        }
        for (int s = 0; s < 4; s++) {
            int before = x.status(5) + x.status(0);
            tell(x.write(s, 0, 0x1234567));
            tell(x.write(s, 0, 0));
            boolean isNumber = x.status(5) + x.status(0) == before;
            for (int i = 1; i < 40 && isNumber; i++) {
                tell(x.write(s, i, 0));
            }
        }
    }
}
