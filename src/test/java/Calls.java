/** Calls of the class by their names. */
final class Calls {
    private Calls() {
    }

    static long answer(GrudgeGlasses x, String call, long[] a) {
        int p = a.length > 0 ? (int) a[0] : 0;
        int q = a.length > 1 ? (int) a[1] : 0;
        int r = a.length > 2 ? (int) a[2] : 0;
        switch (call) {
            case "person": return x.person(p);
            case "of": return x.of(p, q);
            case "set": return x.set(p, q, r);
            case "turn": return x.turn(p, q);
            case "as": return x.as(p, q);
            case "grind": return x.grind(p);
            case "lend": return x.lend(p, q);
            case "looks": return x.looks(p, q);
            case "sees": return x.sees(p, q);
            case "days": return x.days(p);
            case "now": return x.now(p);
            case "on": return x.on(p, q, r);
            case "then": return x.then(p, q, r);
            case "forgives": return x.forgives(p);
            case "worn": return x.worn(p);
            case "unseen": return x.unseen(p);
            case "borrow": return x.borrow(p);
            case "kind": return x.kind(p);
            case "better": return x.better(p, q);
            case "most": return x.most(p, q);
            case "sharpest": return x.sharpest(p);
            case "push": return x.push();
            case "feed": return x.feed(p, q);
            case "wipe": return x.wipe();
            case "quay": return x.quay();
            case "sheet": return x.sheet(p, q, r);
            case "write": return x.write(p, q, a[2]);
            case "copy": return x.copy(p, q, r, (int) a[3], (int) a[4]);
            case "lays": return x.lays(p);
            case "book": return x.book(p, q);
            case "read": return x.read(p, q);
            case "image": return x.image();
            case "undo": return x.undo();
            case "tear": return x.tear();
            case "count": return x.count(p);
            case "status": return x.status(p);
            default: throw new IllegalArgumentException(call);
        }
    }
}
