/** A quay whose people wear spectacles ground to their grudges; README.md says how to use it. */
public final class GrudgeGlasses {
    private static final int BEYOND = -1000000001;
    private static final int FULL = -1000000002;
    private static final int KIND = -1000000003;
    private static final int NONE = -1000000004;
    private static final int STATE = -1000000005;
    private static final int MISSING = -1000000006;
    private static final int SIZE = -1000000007;
    private static final int FINDINGS = 7;

    private static final int PERSON = 0;
    private static final int BROTHER = 1;
    private static final int BRIDE = 2;
    private static final int SAINT = 3;
    private static final int TWIN = 4;
    private static final int WIDOW = 5;
    private static final int KINDS = 6;
    private static final int NO_KIND = -1;
    private static final int[] KIND_ABOVE = {NO_KIND, PERSON, PERSON, PERSON, BROTHER, BRIDE};

    private static final int OF_KIND = 0;
    private static final int OF_GRUDGE = 1;
    private static final int OF_AT = 2;
    private static final int OF_UP = 3;
    private static final int OF_SHOWS = 4;
    private static final int OF_POWER = 5;
    private static final int OF_WORN = 6;
    private static final int OF_GRINDS = 7;
    private static final int OF_FORGIVES = 8;
    private static final int OF_GROWS = 9;

    private static final int PEOPLE_MOST = 8;
    private static final int NOBODY = -1;
    private static final int MOST = 99;
    private static final int SHARP_MOST = 198;
    private static final int SHARP_OF_SEEN = 30;
    private static final int DAY_MOST = 9999;
    private static final int DAYS_AT_ONCE = 100;
    private static final int DAYS_AHEAD = 200;
    private static final int DAYS_PLANNED = 60;
    private static final int DAYS_TO_SHARPEST = 100;
    private static final int NOT_WITHIN = DAYS_AHEAD + 1;
    private static final int TAPE_MOST = 120;
    private static final int BYTES_AT_ONCE = 4;
    private static final int SHEETS = 4;
    private static final int SHEET_MOST = 40;

    private final Quay here = new Quay();
    private final Quay kept = new Quay();
    private final Quay trial = new Quay();
    private final One trialOne = new One();
    private final Tape tape = new Tape();
    private final Sheet[] sheets = new Sheet[SHEETS];
    private final int[] found = new int[FINDINGS];
    private boolean isKept = false;

    public GrudgeGlasses() {
        for (int s = 0; s < SHEETS; s++) {
            sheets[s] = new Sheet();
        }
    }

    // ---- people

    public int person(int kind) {
        if (!isKind(kind)) {
            return finding(BEYOND);
        }
        if (here.isFull()) {
            return finding(FULL);
        }
        return here.welcome(kind).number;
    }

    public int of(int person, int what) {
        if (!isThere(person) || what < OF_KIND || what > OF_GROWS) {
            return finding(BEYOND);
        }
        return here.people[person].told(what);
    }

    public int set(int person, int what, int v) {
        if (!isThere(person) || !maySet(what, v)) {
            return finding(BEYOND);
        }
        One one = here.people[person];
        int was = one.told(what);
        one.put(what, v);
        return was;
    }

    public int turn(int person, int kind) {
        if (!isThere(person) || !isKind(kind)) {
            return finding(BEYOND);
        }
        One one = here.people[person];
        int was = one.kind;
        one.kind = kind;
        return was;
    }

    public int as(int person, int kind) {
        if (!isThere(person) || !isKind(kind)) {
            return finding(BEYOND);
        }
        One one = here.people[person];
        if (!isOrIsUnder(one.kind, kind)) {
            return finding(KIND);
        }
        return one.grudge;
    }

    public int grind(int person) {
        if (!isThere(person)) {
            return finding(BEYOND);
        }
        One one = here.people[person];
        if (one.at == NOBODY) {
            return finding(STATE);
        }
        one.haveGround();
        return one.power;
    }

    public int lend(int person, int other) {
        if (!areTwo(person, other)) {
            return finding(BEYOND);
        }
        One one = here.people[person];
        One another = here.people[other];
        trialOne.takePairOf(one);
        one.takePairOf(another);
        another.takePairOf(trialOne);
        return 1;
    }

    public int looks(int person, int other) {
        if (!areTwo(person, other)) {
            return finding(BEYOND);
        }
        return here.people[person].sharpnessAt(other);
    }

    public int sees(int person, int v) {
        if (!isThere(person) || !isUpTo(v, SHARP_MOST)) {
            return finding(BEYOND);
        }
        return here.othersAsSharpAs(person, v);
    }

    // ---- days

    public int days(int n) {
        if (n < 1 || n > DAYS_AT_ONCE) {
            return finding(BEYOND);
        }
        if (here.day + n > DAY_MOST) {
            return finding(STATE);
        }
        here.letDaysGo(n);
        return here.grudges();
    }

    public int now(int what) {
        switch (what) {
            case 0: return here.day;
            case 1: return here.grudges();
            case 2: return here.thoseWithoutGrudge();
            case 3: return here.thoseSeen();
            case 4: return here.thoseUp();
            default: return finding(BEYOND);
        }
    }

    public int on(int person, int n, int what) {
        if (!isThere(person) || !isUpTo(n, DAYS_AHEAD) || !isUpTo(what, 1)) {
            return finding(BEYOND);
        }
        One one = trialOf(person);
        one.letDaysGo(n);
        return what == 0 ? one.grudge : one.worn;
    }

    public int then(int person, int other, int n) {
        if (!areTwo(person, other) || !isUpTo(n, DAYS_AHEAD)) {
            return finding(BEYOND);
        }
        One one = trialOf(person);
        one.letDaysGo(n);
        return one.sharpnessAt(other);
    }

    public int forgives(int person) {
        if (!isThere(person)) {
            return finding(BEYOND);
        }
        return daysOrNone(daysTillForgiven(trialOf(person)));
    }

    public int worn(int person) {
        if (!isThere(person)) {
            return finding(BEYOND);
        }
        return daysOrNone(daysTillWornOut(trialOf(person)));
    }

    public int unseen(int person) {
        if (!isThere(person)) {
            return finding(BEYOND);
        }
        trial.become(here);
        return daysOrNone(daysTillUnseen(trial, person));
    }

    // ---- what is best

    public int borrow(int person) {
        if (!isThere(person)) {
            return finding(BEYOND);
        }
        int soonest = daysTillForgiven(trialOf(person));
        int best = NOBODY;
        for (int other = 0; other < here.count; other++) {
            One one = trialOf(person);
            one.takePairOf(here.people[other]);
            int days = daysTillForgiven(one);
            if (days < soonest) {
                soonest = days;
                best = other;
            }
        }
        return best == NOBODY ? finding(NONE) : best;
    }

    public int kind(int person) {
        if (!isThere(person)) {
            return finding(BEYOND);
        }
        int soonest = NOT_WITHIN;
        int best = NO_KIND;
        for (int kind = 0; kind < KINDS; kind++) {
            One one = trialOf(person);
            one.kind = kind;
            int days = daysTillForgiven(one);
            if (days < soonest) {
                soonest = days;
                best = kind;
            }
        }
        return best == NO_KIND ? finding(NONE) : best;
    }

    public int better(int person, int n) {
        if (!isThere(person) || n < 1 || n > DAYS_PLANNED) {
            return finding(BEYOND);
        }
        int least = MOST + 1;
        int best = NOBODY;
        for (int at = NOBODY; at < here.count; at++) {
            One one = trialOf(person);
            one.at = at;
            one.letDaysGo(n);
            if (one.grudge < least) {
                least = one.grudge;
                best = at;
            }
        }
        return 1 + best;
    }

    public int most(int person, int n) {
        if (!isThere(person) || n < 1 || n > DAYS_PLANNED) {
            return finding(BEYOND);
        }
        // More may be forgiven where less is not (it wears the pair otherwise), so each is tried.
        for (int grudge = MOST; grudge >= 0; grudge--) {
            One one = trialOf(person);
            one.grudge = grudge;
            one.letDaysGo(n);
            if (one.grudge == 0) {
                return grudge;
            }
        }
        return finding(NONE);
    }

    public int sharpest(int n) {
        if (!isUpTo(n, DAYS_TO_SHARPEST)) {
            return finding(BEYOND);
        }
        if (here.count == 0) {
            return finding(NONE);
        }
        trial.become(here);
        trial.letDaysGo(n);
        return trial.sharpestOfAll();
    }

    public int push() {
        if (here.count < 2) {
            return finding(NONE);
        }
        here.noteWhoSeesWhom();
        // All of them pushed up see one another, so this set will always do.
        int best = here.all();
        for (int set = 0; set < here.all(); set++) {
            boolean isFewer = Integer.bitCount(set) < Integer.bitCount(best);
            if (isFewer && here.seenWithUp(set) == here.all()) {
                best = set;
            }
        }
        return best;
    }

    // ---- the text

    public int feed(int bytes, int n) {
        if (n < 1 || n > BYTES_AT_ONCE) {
            return finding(BEYOND);
        }
        if (tape.length + n > TAPE_MOST) {
            return finding(FULL);
        }
        for (int i = n - 1; i >= 0; i--) {
            tape.add((bytes >>> (8 * i)) & 255);
        }
        return tape.length;
    }

    public int wipe() {
        int had = tape.length;
        tape.length = 0;
        return had;
    }

    public int quay() {
        trial.become(here);
        int answer = Text.items(tape, trial);
        if (answer >= 0) {
            here.become(trial);
        }
        tape.length = 0;
        return answer;
    }

    // ---- sheets

    public int sheet(int s, int bits, int n) {
        if (!isSheet(s) || !(bits == 0 || bits == 8 || bits == 16 || bits == 64)) {
            return finding(BEYOND);
        }
        if (n < 0) {
            return finding(SIZE);
        }
        if (n > SHEET_MOST) {
            return finding(BEYOND);
        }
        sheets[s].begin(bits, n);
        return sheets[s].size;
    }

    public long write(int s, int i, long v) {
        int fault = faultOfSheet(s);
        if (fault != 0) {
            return finding(fault);
        }
        Sheet sheet = sheets[s];
        if (i < 0 || i >= sheet.size) {
            return finding(BEYOND);
        }
        long was = sheet.numbers[i];
        sheet.put(i, v);
        return was;
    }

    public int copy(int s, int from, int t, int to, int n) {
        if (!isSheet(s) || !isSheet(t)) {
            return finding(BEYOND);
        }
        Sheet source = sheets[s];
        Sheet target = sheets[t];
        if (source.isMissing() || target.isMissing()) {
            return finding(MISSING);
        }
        if (source.bits != target.bits) {
            return finding(KIND);
        }
        if (!source.has(from, n) || !target.has(to, n)) {
            return finding(BEYOND);
        }
        System.arraycopy(source.numbers, from, target.numbers, to, n);
        return n;
    }

    public int lays(int s) {
        int fault = faultOfSheet(s);
        if (fault != 0) {
            return finding(fault);
        }
        Sheet sheet = sheets[s];
        int came = 0;
        for (int i = 0; i < sheet.size && i < here.count; i++) {
            long v = sheet.numbers[i];
            if (v >= 0 && v <= MOST) {
                here.people[i].grudge = (int) v;
                came++;
            }
        }
        return came;
    }

    public int book(int s, int person) {
        int fault = faultOfSheetFor(s, person);
        if (fault != 0) {
            return finding(fault);
        }
        Sheet sheet = sheets[s];
        One one = trialOf(person);
        for (int i = 0; i < sheet.size; i++) {
            sheet.put(i, one.grudge);
            one.letDayGo();
        }
        return sheet.size;
    }

    public int read(int s, int person) {
        int fault = faultOfSheetFor(s, person);
        if (fault != 0) {
            return finding(fault);
        }
        int ways = 0;
        for (int kind = 0; kind < KINDS; kind++) {
            for (int power = 0; power <= MOST; power++) {
                One one = trialOf(person);
                one.kind = kind;
                one.power = power;
                if (goesAsTold(one, sheets[s])) {
                    ways++;
                }
            }
        }
        return ways;
    }

    // ---- images

    public int image() {
        kept.become(here);
        isKept = true;
        return 1;
    }

    public int undo() {
        if (!isKept) {
            return finding(NONE);
        }
        here.become(kept);
        return here.count;
    }

    public int tear() {
        int was = isKept ? 1 : 0;
        isKept = false;
        return was;
    }

    public int count(int what) {
        switch (what) {
            case 0: return here.count;
            case 1: return tape.length;
            case 2: return here.pairsThatShowNobody();
            case 3: return here.wornTogether();
            default: return finding(BEYOND);
        }
    }

    public int status(int which) {
        if (which < -1 || which >= FINDINGS) {
            return finding(BEYOND);
        }
        if (which >= 0) {
            return found[which];
        }
        int all = 0;
        for (int i = 0; i < FINDINGS; i++) {
            all += found[i];
        }
        return all;
    }

    // ---- what the calls share

    private int finding(int code) {
        int which = BEYOND - code;
        if (which >= 0 && which < FINDINGS) {
            found[which]++;
        }
        return code;
    }

    private int daysOrNone(int days) {
        return days == NOT_WITHIN ? finding(NONE) : days;
    }

    private boolean isThere(int person) {
        return person >= 0 && person < here.count;
    }

    private boolean areTwo(int person, int other) {
        return isThere(person) && isThere(other) && person != other;
    }

    private boolean maySet(int what, int v) {
        switch (what) {
            case OF_GRUDGE:
            case OF_POWER:
            case OF_WORN:
                return isUpTo(v, MOST);
            case OF_AT:
            case OF_SHOWS:
                return v == NOBODY || isThere(v);
            case OF_UP:
                return isUpTo(v, 1);
            default:
                return false;
        }
    }

    /** One as it is, to be tried: the same object each time, so that trying makes none. */
    private One trialOf(int person) {
        trialOne.become(here.people[person]);
        return trialOne;
    }

    private int faultOfSheet(int s) {
        if (!isSheet(s)) {
            return BEYOND;
        }
        return sheets[s].isMissing() ? MISSING : 0;
    }

    private int faultOfSheetFor(int s, int person) {
        int fault = faultOfSheet(s);
        if (fault != 0) {
            return fault;
        }
        return isThere(person) ? 0 : BEYOND;
    }

    private static boolean isUpTo(int v, int most) {
        return v >= 0 && v <= most;
    }

    private static boolean isSheet(int s) {
        return s >= 0 && s < SHEETS;
    }

    private static boolean isKind(int kind) {
        return kind >= 0 && kind < KINDS;
    }

    private static boolean isOrIsUnder(int kind, int above) {
        int k = kind;
        for (int step = 0; step < KINDS && isKind(k); step++) {
            if (k == above) {
                return true;
            }
            k = KIND_ABOVE[k];
        }
        return false;
    }

    private static int daysTillForgiven(One one) {
        for (int days = 0; days <= DAYS_AHEAD; days++) {
            if (one.grudge == 0) {
                return days;
            }
            one.letDayGo();
        }
        return NOT_WITHIN;
    }

    private static int daysTillWornOut(One one) {
        for (int days = 0; days <= DAYS_AHEAD; days++) {
            if (one.worn >= one.power) {
                return days;
            }
            one.letDayGo();
        }
        return NOT_WITHIN;
    }

    private static int daysTillUnseen(Quay quay, int person) {
        for (int days = 0; days <= DAYS_AHEAD; days++) {
            if ((quay.thoseSeen() & (1 << person)) == 0) {
                return days;
            }
            quay.letDaysGo(1);
        }
        return NOT_WITHIN;
    }

    private static boolean goesAsTold(One one, Sheet sheet) {
        for (int i = 0; i < sheet.size; i++) {
            if (sheet.numbers[i] != one.grudge) {
                return false;
            }
            one.letDayGo();
        }
        return true;
    }

    /** One of the people, with the pair that it has; how its grudge goes depends on nobody else. */
    private static final class One {
        private int number;
        private int kind;
        private int grudge;
        private int at;
        private int up;
        private int shows;
        private int power;
        private int worn;

        void begin(int itsNumber, int itsKind) {
            number = itsNumber;
            kind = itsKind;
            grudge = 20;
            at = NOBODY;
            up = 0;
            shows = NOBODY;
            power = 0;
            worn = 0;
        }

        void become(One other) {
            number = other.number;
            kind = other.kind;
            grudge = other.grudge;
            at = other.at;
            up = other.up;
            takePairOf(other);
        }

        void takePairOf(One other) {
            shows = other.shows;
            power = other.power;
            worn = other.worn;
        }

        int told(int what) {
            switch (what) {
                case OF_KIND: return kind;
                case OF_GRUDGE: return grudge;
                case OF_AT: return at;
                case OF_UP: return up;
                case OF_SHOWS: return shows;
                case OF_POWER: return power;
                case OF_WORN: return worn;
                case OF_GRINDS: return grinding();
                case OF_FORGIVES: return forgiving(sharpnessAtItsOne());
                case OF_GROWS: return growing(sharpnessAtItsOne());
                default: return BEYOND;
            }
        }

        void put(int what, int v) {
            switch (what) {
                case OF_GRUDGE: grudge = v; break;
                case OF_AT: at = v; break;
                case OF_UP: up = v; break;
                case OF_SHOWS: shows = v; break;
                case OF_POWER: power = v; break;
                case OF_WORN: worn = v; break;
                default: break;
            }
        }

        void haveGround() {
            shows = at;
            power = grinding();
            worn = 0;
            up = 0;
        }

        int grinding() {
            int asBrother = Math.min(MOST, grudge + 10);
            int asBride = grudge / 2;
            switch (kind) {
                case BROTHER: return asBrother;
                case BRIDE: return asBride;
                case SAINT: return 0;
                case TWIN: return Math.min(MOST, asBrother + 10);
                case WIDOW: return asBride + 20;
                default: return grudge;
            }
        }

        int sharpnessAt(int other) {
            if (up == 1) {
                return 50;
            }
            int asPerson = other == shows ? Math.max(0, power - worn) : worn / 2;
            int asBrother = asPerson + (other == number + 1 ? 5 : 0);
            int asBride = asPerson * (other < number ? 2 : 1);
            switch (kind) {
                case BROTHER: return asBrother;
                case BRIDE: return asBride;
                case SAINT: return 10;
                case TWIN: return asBrother + (number == other + 1 ? 5 : 0);
                case WIDOW: return Math.max(5, asBride);
                default: return asPerson;
            }
        }

        int sharpnessAtItsOne() {
            return at == NOBODY ? 0 : sharpnessAt(at);
        }

        int forgiving(int v) {
            int asPerson = v < 30 ? 1 : 0;
            int asBrother = grudge > 50 ? 0 : asPerson;
            int asBride = 2 * asPerson;
            switch (kind) {
                case BROTHER: return asBrother;
                case BRIDE: return asBride;
                case SAINT: return 3;
                case TWIN: return asBrother;
                case WIDOW: return asBride + up;
                default: return asPerson;
            }
        }

        int growing(int v) {
            int asPerson = v >= 60 ? 1 : 0;
            int asBrother = asPerson + (v >= 80 ? 1 : 0);
            switch (kind) {
                case BROTHER: return asBrother;
                case SAINT: return 0;
                case TWIN: return 2 * asBrother;
                default: return asPerson;
            }
        }

        void letDayGo() {
            int v = sharpnessAtItsOne();
            int next = grudge + growing(v) - forgiving(v);
            grudge = Math.max(0, Math.min(MOST, next));
            if (up == 0 && grudge < power && worn < MOST) {
                worn++;
            }
        }

        void letDaysGo(int n) {
            for (int i = 0; i < n; i++) {
                letDayGo();
            }
        }
    }

    /** The day and all the people; sets of them are told by bits. */
    private static final class Quay {
        private int day = 0;
        private int count = 0;
        private final One[] people = new One[PEOPLE_MOST];
        private final int[] seenBy = new int[PEOPLE_MOST];

        Quay() {
            for (int k = 0; k < PEOPLE_MOST; k++) {
                people[k] = new One();
            }
        }

        void become(Quay other) {
            day = other.day;
            count = other.count;
            for (int k = 0; k < count; k++) {
                people[k].become(other.people[k]);
            }
        }

        boolean isFull() {
            return count >= PEOPLE_MOST;
        }

        /** One more; only where it isn't full. */
        One welcome(int kind) {
            One one = people[count];
            one.begin(count, kind);
            count++;
            return one;
        }

        void letDaysGo(int n) {
            for (int i = 0; i < n; i++) {
                for (int k = 0; k < count; k++) {
                    people[k].letDayGo();
                }
                day++;
            }
        }

        int all() {
            return (1 << count) - 1;
        }

        int grudges() {
            int sum = 0;
            for (int k = 0; k < count; k++) {
                sum += people[k].grudge;
            }
            return sum;
        }

        int wornTogether() {
            int sum = 0;
            for (int k = 0; k < count; k++) {
                sum += people[k].worn;
            }
            return sum;
        }

        int pairsThatShowNobody() {
            int pairs = 0;
            for (int k = 0; k < count; k++) {
                pairs += people[k].shows == NOBODY ? 1 : 0;
            }
            return pairs;
        }

        int thoseWithoutGrudge() {
            int set = 0;
            for (int k = 0; k < count; k++) {
                set |= people[k].grudge == 0 ? 1 << k : 0;
            }
            return set;
        }

        int thoseUp() {
            int set = 0;
            for (int k = 0; k < count; k++) {
                set |= people[k].up << k;
            }
            return set;
        }

        int othersAsSharpAs(int person, int v) {
            int set = 0;
            for (int other = 0; other < count; other++) {
                if (other != person && people[person].sharpnessAt(other) >= v) {
                    set |= 1 << other;
                }
            }
            return set;
        }

        int thoseSeen() {
            int set = 0;
            for (int k = 0; k < count; k++) {
                set |= othersAsSharpAs(k, SHARP_OF_SEEN);
            }
            return set;
        }

        void noteWhoSeesWhom() {
            for (int k = 0; k < count; k++) {
                seenBy[k] = othersAsSharpAs(k, SHARP_OF_SEEN);
            }
        }

        /** Those that are seen if these are up too; as it was noted last who sees whom. */
        int seenWithUp(int set) {
            int seen = 0;
            for (int k = 0; k < count; k++) {
                boolean isPushed = (set & (1 << k)) != 0;
                seen |= isPushed ? all() & ~(1 << k) : seenBy[k];
            }
            return seen;
        }

        int sharpestOfAll() {
            int best = 0;
            int bestSum = -1;
            for (int k = 0; k < count; k++) {
                int sum = sharpnessAtOthers(k);
                if (sum > bestSum) {
                    bestSum = sum;
                    best = k;
                }
            }
            return best;
        }

        private int sharpnessAtOthers(int person) {
            int sum = 0;
            for (int other = 0; other < count; other++) {
                sum += other == person ? 0 : people[person].sharpnessAt(other);
            }
            return sum;
        }
    }

    /** The tape, and the token of it that is being looked at. */
    private static final class Tape {
        private static final int END = 0;
        private static final int WORD = 1;
        private static final int NUMBER = 2;
        private static final int SIGN = 3;
        private static final int NO_TOKEN = 4;
        private static final int NUMBER_TOO_LARGE = 1000;

        private final int[] bytes = new int[TAPE_MOST];
        private int length = 0;
        private int token = END;
        private int start = 0;
        private int end = 0;

        /** One byte more; only where there is room. */
        void add(int b) {
            bytes[length] = b;
            length++;
        }

        void rewind() {
            end = 0;
            step();
        }

        void step() {
            start = end;
            while (start < length && bytes[start] == ' ') {
                start++;
            }
            end = start;
            if (start >= length) {
                token = END;
            } else if (isLetter(bytes[start])) {
                token = WORD;
                while (end < length && isLetter(bytes[end])) {
                    end++;
                }
            } else if (isDigit(bytes[start])) {
                token = NUMBER;
                while (end < length && isDigit(bytes[end])) {
                    end++;
                }
            } else {
                token = bytes[start] == ';' ? SIGN : NO_TOKEN;
                end++;
            }
        }

        private static boolean isLetter(int b) {
            return b >= 'a' && b <= 'z';
        }

        private static boolean isDigit(int b) {
            return b >= '0' && b <= '9';
        }

        boolean isAtEnd() {
            return token == END;
        }

        boolean isAtSign() {
            return token == SIGN;
        }

        boolean isAtWord(String word) {
            if (token != WORD || end - start != word.length()) {
                return false;
            }
            for (int i = 0; i < word.length(); i++) {
                if (bytes[start + i] != word.charAt(i)) {
                    return false;
                }
            }
            return true;
        }

        boolean isAtNumberBelow(int bound) {
            return token == NUMBER && number() < bound;
        }

        /** The number there; held where it is too large, so that many digits don't wrap around. */
        int number() {
            int v = 0;
            for (int i = start; i < end; i++) {
                v = Math.min(NUMBER_TOO_LARGE, v * 10 + bytes[i] - '0');
            }
            return v;
        }
    }

    /** The text of a quay: each part says if it could stand, else the tape is at what couldn't. */
    private static final class Text {
        static int items(Tape tape, Quay quay) {
            tape.rewind();
            // An item is a byte at least, so there are fewer of them than this.
            for (int items = 1; items <= TAPE_MOST; items++) {
                if (!takesItem(tape, quay)) {
                    break;
                }
                if (tape.isAtEnd()) {
                    return items;
                }
                if (!tape.isAtSign()) {
                    break;
                }
                tape.step();
            }
            return -1 - tape.start;
        }

        private static boolean takesItem(Tape tape, Quay quay) {
            if (tape.isAtWord("grind")) {
                return takesGrind(tape, quay);
            }
            if (tape.isAtWord("up")) {
                return takesUp(tape, quay, 1);
            }
            if (tape.isAtWord("down")) {
                return takesUp(tape, quay, 0);
            }
            int kind = kindThere(tape);
            return kind != NO_KIND && !quay.isFull() && takesOne(tape, quay, kind);
        }

        private static boolean takesOne(Tape tape, Quay quay, int kind) {
            One one = quay.welcome(kind);
            tape.step();
            if (tape.isAtWord("grudge")) {
                tape.step();
                if (!tape.isAtNumberBelow(MOST + 1)) {
                    return false;
                }
                one.grudge = tape.number();
                tape.step();
            }
            if (tape.isAtWord("at")) {
                tape.step();
                if (!tape.isAtNumberBelow(quay.count)) {
                    return false;
                }
                one.at = tape.number();
                tape.step();
            }
            return true;
        }

        private static boolean takesGrind(Tape tape, Quay quay) {
            tape.step();
            if (!tape.isAtNumberBelow(quay.count)) {
                return false;
            }
            One one = quay.people[tape.number()];
            if (one.at == NOBODY) {
                return false;
            }
            one.haveGround();
            tape.step();
            return true;
        }

        private static boolean takesUp(Tape tape, Quay quay, int up) {
            tape.step();
            if (!tape.isAtNumberBelow(quay.count)) {
                return false;
            }
            quay.people[tape.number()].up = up;
            tape.step();
            return true;
        }

        private static int kindThere(Tape tape) {
            for (int kind = 0; kind < KINDS; kind++) {
                if (tape.isAtWord(nameOf(kind))) {
                    return kind;
                }
            }
            return NO_KIND;
        }

        private static String nameOf(int kind) {
            switch (kind) {
                case BROTHER: return "brother";
                case BRIDE: return "bride";
                case SAINT: return "saint";
                case TWIN: return "twin";
                case WIDOW: return "widow";
                default: return "person";
            }
        }
    }

    /** A row of numbers of as many bits; of no bits where it is missing. */
    private static final class Sheet {
        private int bits = 0;
        private int size = 0;
        private final long[] numbers = new long[SHEET_MOST];

        void begin(int itsBits, int itsSize) {
            bits = itsBits;
            size = itsBits == 0 ? 0 : itsSize;
            for (int i = 0; i < SHEET_MOST; i++) {
                numbers[i] = 0;
            }
        }

        boolean isMissing() {
            return bits == 0;
        }

        /** That there are n from a place on; put so that no sum wraps around. */
        boolean has(int from, int n) {
            return from >= 0 && n >= 0 && n <= size && from <= size - n;
        }

        void put(int i, long v) {
            if (bits == 8) {
                numbers[i] = (byte) v;
            } else if (bits == 16) {
                numbers[i] = (short) v;
            } else {
                numbers[i] = v;
            }
        }
    }
}
