import java.util.Arrays;

/**
 * A school by letters, as ../shared/DOC.md tells it. Each public method is one promise of that document; it looks at
 * its arguments in the order in which the document names the refusals, and changes nothing before all of them are passed.
 */
public final class LetterSchool {
    public static final int BAD = -1, NOT = -2, FULL = -3, NONE = -4, NULL = -11, CAST = -12, INDEX = -13, SIZE = -14;

    private static final int LAST_DAY = 3999;
    private static final int COURSES = 4;
    private static final int EDITIONS = 6;
    private static final int LESSONS = 8;
    private static final int NAMES = 40;
    private static final int PLACES = 6;
    private static final int PUPILS = 12;
    private static final int TUTORS = 6;
    private static final int THINGS = 80;
    private static final int SHEETS = 4;
    private static final int LANES = 3;
    private static final int ITEMS = 30;
    private static final int ROW = 20;
    private static final int CHOICES = 5;
    private static final int MOST_MARKS = 100;
    private static final int MOST_LOAD = 12;
    private static final int MOST_PENCE = 99999;
    private static final int MOST_AGAIN = 2;
    private static final int SHARED = 6;
    private static final int PAYMENTS = 512;

    private static final int LESSON = 0;
    private static final int ANSWER = 1;
    private static final int MARKED = 2;
    private static final int AGAIN = 3;
    private static final int LOST = 4;

    private static final int FIRST_FAULT = -20;
    private static final int OFFSET_REFUSED = -1000;

    private final Tape tape = new Tape();
    private final Edition[] editions = new Edition[COURSES * EDITIONS];
    private final int[] editionCount = new int[COURSES];
    private final Fees[] feesOf = new Fees[COURSES];
    private Edition draftEdition = new Edition();
    private Fees draftFees = new Fees();
    private final Pupil[] pupils = new Pupil[PUPILS];
    private int pupilCount = 0;
    private final Tutor[] tutors = new Tutor[TUTORS];
    private int tutorCount = 0;
    private final Thing[] things = new Thing[THINGS];
    private int thingCount = 0;
    private final Post[] posts = new Post[PLACES];
    private final Ledger ledger = new Ledger();
    private final byte[] keys = new byte[NAMES * ROW];
    private int doubtLimit = 5;
    private final Sheet[] sheets = new Sheet[SHEETS];
    private final Sharing sharing = new Sharing();
    private final Way way = new Way();
    private final int[] bests = new int[LESSONS];

    public LetterSchool() {
        for (int i = 0; i < COURSES; i++) {
            feesOf[i] = new Fees();
        }
        for (int i = 0; i < PLACES; i++) {
            posts[i] = new Post();
        }
        for (int i = 0; i < SHEETS; i++) {
            sheets[i] = new Sheet();
        }
    }

    // ---- 1 courses, pupils

    public int type(long w, int n) {
        if (n < 1 || n > 8) {
            return BAD;
        }
        for (int i = 0; i < n; i++) {
            int sign = (int) (w >>> (8 * i)) & 255;
            if (sign < 32 || sign > 126) {
                return BAD;
            }
        }
        if (tape.length + n > Tape.ROOM) {
            return FULL;
        }
        for (int i = n - 1; i >= 0; i--) {
            tape.append((int) (w >>> (8 * i)) & 255);
        }
        return tape.length;
    }

    public int edition(int course, int from) {
        if (!isIn(course, COURSES) || !isDay(from) || from < latestFrom(course)) {
            return BAD;
        }
        boolean whole = tape.readEdition(draftEdition);
        tape.length = 0;
        if (!whole) {
            return FIRST_FAULT - tape.place;
        }
        int number = editionCount[course];
        if (number >= EDITIONS) {
            return FULL;
        }
        draftEdition.from = from;
        editions[course * EDITIONS + number] = draftEdition;
        editionCount[course] = number + 1;
        draftEdition = new Edition();
        return number;
    }

    public int told(int course, int edition, int what) {
        Edition e = editionAt(course, edition);
        if (e == null || !isIn(what, 3)) {
            return BAD;
        }
        if (what == 0) {
            return e.from;
        }
        return what == 1 ? Integer.bitCount(e.lessons) : e.lessons;
    }

    public int lesson(int course, int edition, int lesson, int what) {
        Edition e = editionAt(course, edition);
        if (e == null || !e.tells(lesson) || !isIn(what, 3)) {
            return BAD;
        }
        if (what == 0) {
            return e.name[lesson];
        }
        return what == 1 ? e.pass[lesson] : e.stands[lesson];
    }

    public int pupil(int place, int course, int day) {
        if (!isIn(place, PLACES) || !isIn(course, COURSES) || !isDay(day)) {
            return BAD;
        }
        int number = inForce(course, day);
        Edition taught = editionAt(course, number);
        if (taught == null) {
            return NOT;
        }
        if (pupilCount >= PUPILS) {
            return FULL;
        }
        pupils[pupilCount] = new Pupil(place, day, course, number, taught);
        pupilCount++;
        return pupilCount - 1;
    }

    public int who(int pupil, int what) {
        Pupil p = pupilAt(pupil);
        if (p == null) {
            return BAD;
        }
        switch (what) {
            case 0:
                return p.place;
            case 1:
                return p.course;
            case 2:
                return p.edition;
            case 3:
                return p.begin;
            case 4:
                return p.habit;
            case 5:
                return p.left;
            case 6:
                return ledger.paidBy(pupil, LAST_DAY);
            default:
                return BAD;
        }
    }

    public int habit(int pupil, int days) {
        Pupil p = pupilAt(pupil);
        if (p == null || !isIn(days, 61)) {
            return BAD;
        }
        int was = p.habit;
        p.habit = days;
        return was;
    }

    public int best(int pupil, int lesson, int day) {
        Pupil p = pupilAt(pupil);
        if (p == null || !p.taught.tells(lesson) || !isDay(day)) {
            return BAD;
        }
        int most = bestByName(pupil, p.taught.name[lesson], day);
        return most < 0 ? NONE : most;
    }

    public int may(int pupil, int what) {
        Pupil p = pupilAt(pupil);
        if (p == null || !isIn(what, 3)) {
            return BAD;
        }
        fillBests(pupil, p.taught);
        if (what == 0) {
            return p.taught.open(bests);
        }
        int passed = p.taught.passed(bests);
        return what == 1 ? passed : p.taught.lessons & ~passed;
    }

    public int lean(int pupil, int lesson) {
        Pupil p = pupilAt(pupil);
        if (p == null || !p.taught.tells(lesson)) {
            return BAD;
        }
        fillBests(pupil, p.taught);
        return way.shortest(p.taught, bests, lesson);
    }

    // ---- 2 things

    public int post(int place, int days, int each) {
        if (!isIn(place, PLACES) || days < 1 || days > 60 || !isIn(each, 10) || each == 1) {
            return BAD;
        }
        posts[place].days = days;
        posts[place].each = each;
        posts[place].carried = 0;
        return 1;
    }

    public int send(int pupil, int lesson, int day) {
        Pupil p = pupilAt(pupil);
        if (p == null || !p.taught.tells(lesson) || !isDay(day) || day < p.begin) {
            return BAD;
        }
        fillBests(pupil, p.taught);
        if ((p.taught.open(bests) >> lesson & 1) == 0 || p.hasLeftBy(day)) {
            return NOT;
        }
        if (thingCount >= THINGS) {
            return FULL;
        }
        Thing t = new Thing(pupil, p.taught.name[lesson], lesson, day);
        things[thingCount] = t;
        thingCount++;
        carry(t, p, day);
        return thingCount - 1;
    }

    public int answer(int thing, int day) {
        Thing t = thingAt(thing);
        if (t == null || !isDay(day)) {
            return BAD;
        }
        if (t.kind == LOST) {
            return CAST;
        }
        Pupil p = pupilAt(t.pupil);
        if (p == null || t.kind == ANSWER || t.kind == MARKED || t.comes > day || p.hasLeftBy(day)) {
            return NOT;
        }
        t.kind = ANSWER;
        return carry(t, p, day);
    }

    public int give(int thing, int tutor, int day) {
        Thing t = thingAt(thing);
        Tutor u = tutorAt(tutor);
        if (t == null || u == null || !isDay(day)) {
            return BAD;
        }
        if (!t.isAnswer()) {
            return CAST;
        }
        if (!t.isOpenBy(day) || !u.mayMark(t)) {
            return NOT;
        }
        if (u.load >= MOST_LOAD) {
            return FULL;
        }
        t.tutor = tutor;
        t.given = day;
        u.load++;
        return u.load;
    }

    public int mark(int thing, int first, int second, int third, int day) {
        Thing t = thingAt(thing);
        if (t == null || !areParts(first, second, third) || !isDay(day)) {
            return BAD;
        }
        if (!t.isAnswer()) {
            return CAST;
        }
        if (!t.isGivenBy(day)) {
            return NOT;
        }
        unload(t);
        t.kind = MARKED;
        t.marks = weigh(first, second, third);
        t.marked = day;
        return t.marks;
    }

    public int again(int thing, int day) {
        Thing t = thingAt(thing);
        if (t == null || !isDay(day)) {
            return BAD;
        }
        if (!t.isAnswer()) {
            return CAST;
        }
        Pupil p = pupilAt(t.pupil);
        if (p == null || !t.isGivenBy(day) || t.again >= MOST_AGAIN) {
            return NOT;
        }
        unload(t);
        t.kind = AGAIN;
        t.tutor = NONE;
        t.again++;
        return carry(t, p, day);
    }

    public int second(int thing, int tutor, int first, int second, int third) {
        Thing t = thingAt(thing);
        if (t == null || tutorAt(tutor) == null || !areParts(first, second, third)) {
            return BAD;
        }
        if (t.kind != MARKED) {
            return CAST;
        }
        if (t.tutor == tutor || t.secondTutor != NONE) {
            return NOT;
        }
        t.secondTutor = tutor;
        t.secondMarks = weigh(first, second, third);
        return t.secondMarks;
    }

    public int thing(int thing, int what) {
        Thing t = thingAt(thing);
        if (t == null) {
            return BAD;
        }
        switch (what) {
            case 0:
                return t.kind;
            case 1:
                return t.pupil;
            case 2:
                return t.name;
            case 3:
                return t.lesson;
            case 4:
                return t.sent;
            case 5:
                return t.comes;
            case 6:
                return t.tutor;
            case 7:
                return t.again;
            default:
                return BAD;
        }
    }

    public int marks(int thing, int what) {
        Thing t = thingAt(thing);
        if (t == null || !isIn(what, 4)) {
            return BAD;
        }
        if (t.kind != MARKED) {
            return CAST;
        }
        switch (what) {
            case 0:
                return t.marks;
            case 1:
                return t.marked;
            case 2:
                return t.secondMarks;
            default:
                return knownOn(t);
        }
    }

    public int count(int what) {
        if (!isIn(what, 8)) {
            return BAD;
        }
        if (what == 0) {
            return pupilCount;
        }
        if (what == 1) {
            return tutorCount;
        }
        if (what == 2) {
            return thingCount;
        }
        int n = 0;
        for (int i = 0; i < thingCount; i++) {
            if (things[i].kind == what - 3) {
                n++;
            }
        }
        return n;
    }

    // ---- 3 tutors

    public int tutor(int teaches, int pace) {
        if (!isIn(teaches, 16) || pace < 1 || pace > 9) {
            return BAD;
        }
        if (tutorCount >= TUTORS) {
            return FULL;
        }
        tutors[tutorCount] = new Tutor(teaches, pace);
        tutorCount++;
        return tutorCount - 1;
    }

    public int kin(int tutor, int pupils) {
        Tutor u = tutorAt(tutor);
        if (u == null || !isIn(pupils, 1 << PUPILS)) {
            return BAD;
        }
        int was = u.kin;
        u.kin = pupils;
        return was;
    }

    public int load(int tutor) {
        Tutor u = tutorAt(tutor);
        return u == null ? BAD : u.load;
    }

    public int wait(int pupil, int tutor) {
        Pupil p = pupilAt(pupil);
        Tutor u = tutorAt(tutor);
        if (p == null || u == null) {
            return BAD;
        }
        return 2 * posts[p.place].days + p.habit + cutUp(u.load + 1, u.pace);
    }

    public int took(int thing) {
        Thing t = thingAt(thing);
        if (t == null) {
            return BAD;
        }
        return t.kind == MARKED ? knownOn(t) - t.firstSent : CAST;
    }

    public int share(int day, int what) {
        if (!isDay(day) || !isIn(what, 2)) {
            return BAD;
        }
        shareBy(day);
        return what == 0 ? sharing.mostGiven : sharing.leastDays;
    }

    public int shareOf(int day, int thing) {
        if (!isDay(day) || thingAt(thing) == null) {
            return BAD;
        }
        shareBy(day);
        return sharing.tutorOf(thing);
    }

    public int offset(int a, int b, int what) {
        if (tutorAt(a) == null || tutorAt(b) == null || a == b || !isIn(what, 4)) {
            return OFFSET_REFUSED + BAD;
        }
        int n = 0;
        int sum = 0;
        int least = MOST_MARKS;
        int greatest = -MOST_MARKS;
        for (int i = 0; i < thingCount; i++) {
            Thing t = things[i];
            if (!t.isMarkedByBoth(a, b)) {
                continue;
            }
            int off = t.tutor == a ? t.marks - t.secondMarks : t.secondMarks - t.marks;
            n++;
            sum += off;
            least = Math.min(least, off);
            greatest = Math.max(greatest, off);
        }
        if (what == 0) {
            return n;
        }
        if (n == 0) {
            return OFFSET_REFUSED + NONE;
        }
        if (what == 1) {
            return sum / n;
        }
        return what == 2 ? least : greatest;
    }

    // ---- 4 copies

    public int key(int name, int at, int choice) {
        if (!isIn(name, NAMES) || !isIn(at, ROW) || !isIn(choice, CHOICES)) {
            return BAD;
        }
        int was = keys[name * ROW + at];
        keys[name * ROW + at] = (byte) choice;
        return was;
    }

    public int choose(int thing, int at, int choice) {
        Thing t = thingAt(thing);
        if (t == null || !isIn(at, ROW) || !isIn(choice, CHOICES)) {
            return BAD;
        }
        if (!t.isAnswer()) {
            return CAST;
        }
        int was = t.choices[at];
        t.choices[at] = (byte) choice;
        return was;
    }

    public int like(int a, int b) {
        Thing one = thingAt(a);
        Thing other = thingAt(b);
        if (one == null || other == null || a == b) {
            return BAD;
        }
        if (!one.isAnswer() || !other.isAnswer()) {
            return CAST;
        }
        return areComparable(one, other) ? likeness(one, other) : NOT;
    }

    public int limit(int n) {
        if (!isIn(n, ROW)) {
            return BAD;
        }
        int was = doubtLimit;
        doubtLimit = n;
        return was;
    }

    public int doubted(int i) {
        if (i < 0) {
            return BAD;
        }
        int ahead = 0;
        for (int a = 0; a < thingCount; a++) {
            for (int b = a + 1; b < thingCount; b++) {
                if (!isDoubted(things[a], things[b])) {
                    continue;
                }
                if (ahead == i) {
                    return a * THINGS + b;
                }
                ahead++;
            }
        }
        return NONE;
    }

    // ---- 5 fees, moves

    public int fees(int course) {
        if (!isIn(course, COURSES)) {
            return BAD;
        }
        boolean whole = tape.readFees(draftFees);
        tape.length = 0;
        if (!whole) {
            return FIRST_FAULT - tape.place;
        }
        Fees old = feesOf[course];
        feesOf[course] = draftFees;
        draftFees = old;
        return feesOf[course].count;
    }

    public int pay(int pupil, int pence, int day) {
        Pupil p = pupilAt(pupil);
        if (p == null || pence < 1 || pence > MOST_PENCE || !isDay(day) || day < p.begin) {
            return BAD;
        }
        if (p.hasLeftBy(day)) {
            return NOT;
        }
        return ledger.enter(pupil, pence, day) ? ledger.paidBy(pupil, LAST_DAY) : FULL;
    }

    public int due(int pupil, int day) {
        Pupil p = pupilAt(pupil);
        if (p == null || !isDay(day)) {
            return BAD;
        }
        return Math.max(0, feesOf[p.course].partsBy(day - p.begin) - ledger.paidBy(pupil, day));
    }

    public int leave(int pupil, int day) {
        Pupil p = pupilAt(pupil);
        if (p == null || !isDay(day) || day < p.begin) {
            return BAD;
        }
        if (p.left != NONE) {
            return NOT;
        }
        p.left = day;
        // The payments that one object can hold, times 100, are beyond an int.
        return (int) ((long) ledger.paidBy(pupil, day) * feesOf[p.course].backAfter(day - p.begin) / 100);
    }

    public int move(int pupil, int course, int day) {
        Pupil p = pupilAt(pupil);
        if (p == null || !isIn(course, COURSES) || !isDay(day)) {
            return BAD;
        }
        int number = inForce(course, day);
        Edition taught = editionAt(course, number);
        if (p.hasLeftBy(day) || taught == null) {
            return NOT;
        }
        p.follow(course, number, taught);
        fillBests(pupil, taught);
        return Integer.bitCount(taught.passed(bests));
    }

    // ---- 6 sheets

    public int sheet(int sheet, int lane, int n) {
        if (!isIn(sheet, SHEETS) || !isIn(lane, LANES) || n > ITEMS) {
            return BAD;
        }
        if (n < 0) {
            return SIZE;
        }
        sheets[sheet].begin(lane, n);
        return n;
    }

    public int drop(int sheet) {
        if (!isIn(sheet, SHEETS)) {
            return BAD;
        }
        Sheet s = sheets[sheet];
        if (s.lane == Sheet.NOTHING) {
            return NULL;
        }
        s.lane = Sheet.NOTHING;
        return s.size;
    }

    public int item(int sheet, int lane, int i, int v) {
        if (!isIn(sheet, SHEETS) || !isIn(lane, LANES)) {
            return BAD;
        }
        int refused = sheets[sheet].refusal(lane, i, 1);
        if (refused != 0) {
            return refused;
        }
        sheets[sheet].put(i, v);
        return 1;
    }

    public int choices(int thing, int sheet, int lane, int from, int n) {
        Thing t = thingAt(thing);
        if (t == null || !isIn(sheet, SHEETS) || !isIn(lane, LANES) || !isIn(n, ROW + 1)) {
            return BAD;
        }
        if (!t.isAnswer()) {
            return CAST;
        }
        Sheet s = sheets[sheet];
        int refused = s.refusal(lane, from, n);
        if (refused != 0) {
            return refused;
        }
        for (int i = 0; i < n; i++) {
            if (!isIn(s.items[from + i], CHOICES)) {
                return NOT;
            }
        }
        for (int i = 0; i < n; i++) {
            t.choices[i] = (byte) s.items[from + i];
        }
        return n;
    }

    // ---- what the calls share

    private static boolean isIn(int number, int end) {
        return number >= 0 && number < end;
    }

    private static boolean isDay(int day) {
        return isIn(day, LAST_DAY + 1);
    }

    private static boolean areParts(int first, int second, int third) {
        return isIn(first, MOST_MARKS + 1) && isIn(second, MOST_MARKS + 1) && isIn(third, MOST_MARKS + 1);
    }

    private static int weigh(int first, int second, int third) {
        return (2 * first + second + third) / 4;
    }

    private static int cutUp(int amount, int by) {
        return by < 1 ? 0 : (amount + by - 1) / by;
    }

    private Pupil pupilAt(int pupil) {
        return isIn(pupil, pupilCount) ? pupils[pupil] : null;
    }

    private Tutor tutorAt(int tutor) {
        return isIn(tutor, tutorCount) ? tutors[tutor] : null;
    }

    private Thing thingAt(int thing) {
        return isIn(thing, thingCount) ? things[thing] : null;
    }

    private Edition editionAt(int course, int edition) {
        if (!isIn(course, COURSES) || !isIn(edition, editionCount[course])) {
            return null;
        }
        return editions[course * EDITIONS + edition];
    }

    private int latestFrom(int course) {
        Edition latest = editionAt(course, editionCount[course] - 1);
        return latest == null ? 0 : latest.from;
    }

    /** The number of the latest edition that is in force on a day, or NONE. */
    private int inForce(int course, int day) {
        for (int i = editionCount[course] - 1; i >= 0; i--) {
            if (editions[course * EDITIONS + i].from <= day) {
                return i;
            }
        }
        return NONE;
    }

    /** The most marks for a name as of a day; -1 if nothing is marked, so that it is below every pass. */
    private int bestByName(int pupil, int name, int day) {
        int most = -1;
        for (int i = 0; i < thingCount; i++) {
            Thing t = things[i];
            if (t.kind == MARKED && t.pupil == pupil && t.name == name && t.marked <= day) {
                most = Math.max(most, t.marks);
            }
        }
        return most;
    }

    private void fillBests(int pupil, Edition taught) {
        for (int i = 0; i < LESSONS; i++) {
            bests[i] = taught.tells(i) ? bestByName(pupil, taught.name[i], LAST_DAY) : -1;
        }
    }

    /** Puts a thing into the post between the house and its pupil: the day on which it comes, NONE if it is lost. */
    private int carry(Thing t, Pupil p, int day) {
        Post post = posts[p.place];
        t.sent = day;
        if (post.losesNext()) {
            t.kind = LOST;
            t.comes = NONE;
        } else {
            t.comes = day + post.days;
        }
        return t.comes;
    }

    private void unload(Thing t) {
        Tutor u = tutorAt(t.tutor);
        if (u != null) {
            u.load--;
        }
    }

    private int knownOn(Thing t) {
        Pupil p = pupilAt(t.pupil);
        return p == null ? NONE : t.marked + posts[p.place].days;
    }

    private void shareBy(int day) {
        sharing.clear();
        for (int i = 0; i < tutorCount; i++) {
            sharing.addTutor(tutors[i]);
        }
        for (int i = 0; i < thingCount; i++) {
            if (things[i].isOpenBy(day)) {
                sharing.addThing(i, tutorsFor(things[i]));
            }
        }
        sharing.solve();
    }

    private int tutorsFor(Thing t) {
        int bits = 0;
        for (int i = 0; i < tutorCount; i++) {
            if (tutors[i].mayMark(t)) {
                bits |= 1 << i;
            }
        }
        return bits;
    }

    private static boolean areComparable(Thing one, Thing other) {
        return one.name == other.name && one.pupil != other.pupil;
    }

    private int likeness(Thing one, Thing other) {
        int n = 0;
        for (int i = 0; i < ROW; i++) {
            if (one.choices[i] == other.choices[i] && one.choices[i] != keys[one.name * ROW + i]) {
                n++;
            }
        }
        return n;
    }

    private boolean isDoubted(Thing one, Thing other) {
        return one.isAnswer() && other.isAnswer() && areComparable(one, other) && likeness(one, other) > doubtLimit;
    }

    /** The tape, and the reading of what stands on it: where a read fails, place is that of the fault. */
    private static final class Tape {
        static final int ROOM = 120;
        private static final int END = -1;
        private static final int MOST_OPEN = 6;
        private static final int MOST_DAYS = 999;

        private final byte[] signs = new byte[ROOM];
        private int length = 0;
        private int place = 0;

        void append(int sign) {
            if (length < ROOM) {
                signs[length] = (byte) sign;
                length++;
            }
        }

        private int next() {
            for (int i = 0; i < ROOM && place < length && signs[place] == ' '; i++) {
                place++;
            }
            return place < length ? signs[place] : END;
        }

        private boolean takes(int sign) {
            if (next() != sign) {
                return false;
            }
            place++;
            return true;
        }

        private static boolean isDigit(int sign) {
            return sign >= '0' && sign <= '9';
        }

        /** A number up to the most that may be, or -1. */
        private int takeNumber(int most) {
            if (!isDigit(next())) {
                return -1;
            }
            int first = place;
            int value = 0;
            for (int i = first; i < length && isDigit(signs[i]); i++) {
                // Held just above the most, so that no run of digits goes beyond an int.
                value = Math.min(value * 10 + signs[i] - '0', most + 1);
                place = i + 1;
            }
            if (value > most) {
                place = first;
                return -1;
            }
            return value;
        }

        boolean readEdition(Edition e) {
            e.clear();
            place = 0;
            for (int clauses = 1; clauses <= LESSONS; clauses++) {
                if (!readLesson(e)) {
                    return false;
                }
                if (next() == END) {
                    return e.leansOnToldAlone();
                }
                if (clauses == LESSONS || !takes(';')) {
                    return false;
                }
            }
            return false;
        }

        private boolean readLesson(Edition e) {
            int lesson = next() - 'a';
            if (!isIn(lesson, LESSONS) || e.tells(lesson)) {
                return false;
            }
            place++;
            if (!takes('=')) {
                return false;
            }
            int name = takeNumber(NAMES - 1);
            if (name < 0 || !takes('/')) {
                return false;
            }
            int pass = takeNumber(MOST_MARKS);
            if (pass < 0) {
                return false;
            }
            e.tell(lesson, name, pass);
            return !takes(':') || readCases(e, lesson, 0);
        }

        private boolean readCases(Edition e, int lesson, int open) {
            for (int i = 0; i < ROOM; i++) {
                if (!readClaim(e, lesson, open)) {
                    return false;
                }
                for (int k = 0; k < ROOM && takes('&'); k++) {
                    if (!readClaim(e, lesson, open)) {
                        return false;
                    }
                    e.add(lesson, Edition.BOTH);
                }
                if (i > 0) {
                    e.add(lesson, Edition.EITHER);
                }
                if (!takes('|')) {
                    return true;
                }
            }
            return false;
        }

        private boolean readClaim(Edition e, int lesson, int open) {
            boolean denied = takes('!');
            if (open < MOST_OPEN && takes('(')) {
                if (!readCases(e, lesson, open + 1) || !takes(')')) {
                    return false;
                }
            } else if (!readLeaning(e, lesson)) {
                return false;
            }
            if (denied) {
                e.add(lesson, Edition.DENIED);
            }
            return true;
        }

        private boolean readLeaning(Edition e, int lesson) {
            int on = next() - 'a';
            if (!isIn(on, LESSONS)) {
                return false;
            }
            place++;
            if (!takes('>')) {
                e.addPassed(lesson, on);
                return true;
            }
            int marks = takeNumber(MOST_MARKS);
            if (marks < 0) {
                return false;
            }
            e.addAbove(lesson, on, marks);
            return true;
        }

        boolean readFees(Fees f) {
            f.count = 0;
            place = 0;
            for (int clauses = 1; clauses <= Fees.CLAUSES; clauses++) {
                if (!readFee(f)) {
                    return false;
                }
                if (next() == END) {
                    return true;
                }
                if (clauses == Fees.CLAUSES || !takes(';')) {
                    return false;
                }
            }
            return false;
        }

        private boolean readFee(Fees f) {
            boolean isPart = takes('p');
            if (!isPart && !takes('b')) {
                return false;
            }
            int days = takeNumber(MOST_DAYS);
            if (days < 0 || !takes('=')) {
                return false;
            }
            int amount = takeNumber(isPart ? MOST_PENCE : 100);
            if (amount < 0) {
                return false;
            }
            f.add(isPart, days, amount);
            return true;
        }
    }

    /** An edition, what its lessons lean on kept as marks behind what they join: a, b, BOTH for a&b. */
    private static final class Edition {
        static final int DENIED = -1;
        static final int BOTH = -2;
        static final int EITHER = -3;

        private int from = 0;
        private int lessons = 0;
        private final int[] name = new int[LESSONS];
        private final int[] pass = new int[LESSONS];
        private final int[] stands = new int[LESSONS];
        private final int[] start = new int[LESSONS];
        private final int[] end = new int[LESSONS];
        // No more marks than signs on the tape: each mark comes of one of them at least.
        private final short[] code = new short[Tape.ROOM];
        private int codeLength = 0;

        void clear() {
            lessons = 0;
            codeLength = 0;
        }

        boolean tells(int lesson) {
            return isIn(lesson, LESSONS) && (lessons >> lesson & 1) == 1;
        }

        void tell(int lesson, int itsName, int itsPass) {
            lessons |= 1 << lesson;
            name[lesson] = itsName;
            pass[lesson] = itsPass;
            stands[lesson] = 0;
            start[lesson] = codeLength;
            end[lesson] = codeLength;
        }

        void addPassed(int lesson, int on) {
            stands[lesson] |= 1 << on;
            add(lesson, on);
        }

        void addAbove(int lesson, int on, int marks) {
            stands[lesson] |= 1 << on;
            add(lesson, LESSONS * (marks + 1) + on);
        }

        void add(int lesson, int mark) {
            if (codeLength < code.length) {
                code[codeLength] = (short) mark;
                codeLength++;
                end[lesson] = codeLength;
            }
        }

        boolean leansOnToldAlone() {
            int standing = 0;
            for (int i = 0; i < LESSONS; i++) {
                if (tells(i)) {
                    standing |= stands[i];
                }
            }
            return (standing & ~lessons) == 0;
        }

        private boolean isPassed(int lesson, int[] best) {
            return best[lesson] >= pass[lesson];
        }

        private boolean claimHolds(int claim, int[] best) {
            int on = claim & LESSONS - 1;
            return claim < LESSONS ? isPassed(on, best) : best[on] > claim / LESSONS - 1;
        }

        /** What is still to be joined stands as bits, the latest lowest: 2 for each open ( at most, and 3 more. */
        private boolean holds(int lesson, int[] best) {
            int bits = 1;
            for (int i = start[lesson]; i < end[lesson]; i++) {
                int latest = bits & 1;
                switch (code[i]) {
                    case DENIED:
                        bits ^= 1;
                        break;
                    case BOTH:
                        bits = latest == 1 ? bits >> 1 : bits >> 1 & ~1;
                        break;
                    case EITHER:
                        bits = bits >> 1 | latest;
                        break;
                    default:
                        bits = bits << 1 | (claimHolds(code[i], best) ? 1 : 0);
                        break;
                }
            }
            return (bits & 1) == 1;
        }

        /** The lessons that are passed with such best marks. */
        int passed(int[] best) {
            int bits = 0;
            for (int i = 0; i < LESSONS; i++) {
                if (tells(i) && isPassed(i, best)) {
                    bits |= 1 << i;
                }
            }
            return bits;
        }

        /** The lessons that may be had with such best marks. */
        int open(int[] best) {
            int bits = 0;
            for (int i = 0; i < LESSONS; i++) {
                if (tells(i) && !isPassed(i, best) && holds(i, best)) {
                    bits |= 1 << i;
                }
            }
            return bits;
        }

        int namedLike(int lesson) {
            int bits = 0;
            for (int i = 0; i < LESSONS; i++) {
                if (tells(i) && name[i] == name[lesson]) {
                    bits |= 1 << i;
                }
            }
            return bits;
        }
    }

    /** The shortest way to a lesson, through the sets of lessons that have 100 marks by what was had on the way. */
    private static final class Way {
        private static final int SETS = 1 << LESSONS;

        private final int[] steps = new int[SETS];
        private final int[] queue = new int[SETS];
        private final int[] then = new int[LESSONS];

        int shortest(Edition e, int[] now, int lesson) {
            Arrays.fill(steps, NONE);
            steps[0] = 0;
            queue[0] = 0;
            int tail = 1;
            for (int head = 0; head < tail && head < SETS; head++) {
                int had = queue[head];
                raise(now, had);
                if ((e.passed(then) >> lesson & 1) == 1) {
                    return steps[had];
                }
                tail = reach(e, had, tail);
            }
            return NONE;
        }

        private void raise(int[] now, int had) {
            for (int i = 0; i < LESSONS; i++) {
                then[i] = (had >> i & 1) == 1 ? MOST_MARKS : now[i];
            }
        }

        private int reach(Edition e, int had, int tail) {
            int open = e.open(then);
            int end = tail;
            for (int i = 0; i < LESSONS; i++) {
                if ((open >> i & 1) == 0) {
                    continue;
                }
                int next = had | e.namedLike(i);
                if (steps[next] == NONE && end < SETS) {
                    steps[next] = steps[had] + 1;
                    queue[end] = next;
                    end++;
                }
            }
            return end;
        }
    }

    private static final class Pupil {
        private final int place;
        private final int begin;
        private int course;
        private int edition;
        private Edition taught;
        private int habit = 5;
        private int left = NONE;

        Pupil(int place, int begin, int course, int edition, Edition taught) {
            this.place = place;
            this.begin = begin;
            this.course = course;
            this.edition = edition;
            this.taught = taught;
        }

        void follow(int newCourse, int newEdition, Edition newTaught) {
            course = newCourse;
            edition = newEdition;
            taught = newTaught;
        }

        boolean hasLeftBy(int day) {
            return left != NONE && left <= day;
        }
    }

    private static final class Post {
        private int days = 3;
        private int each = 0;
        private int carried = 0;

        boolean losesNext() {
            if (each < 1) {
                return false;
            }
            carried = (carried + 1) % each;
            return carried == 0;
        }
    }

    private static final class Tutor {
        private final int teaches;
        private final int pace;
        private int kin = 0;
        private int load = 0;

        Tutor(int teaches, int pace) {
            this.teaches = teaches;
            this.pace = pace;
        }

        boolean mayMark(Thing t) {
            return (teaches >> t.name / 10 & 1) == 1 && (kin >> t.pupil & 1) == 0;
        }
    }

    private static final class Thing {
        private final int pupil;
        private final int name;
        private final int lesson;
        private final int firstSent;
        private final byte[] choices = new byte[ROW];
        private int kind = LESSON;
        private int sent = 0;
        private int comes = NONE;
        private int tutor = NONE;
        private int given = 0;
        private int again = 0;
        private int marks = 0;
        private int marked = 0;
        private int secondTutor = NONE;
        private int secondMarks = NONE;

        Thing(int pupil, int name, int lesson, int day) {
            this.pupil = pupil;
            this.name = name;
            this.lesson = lesson;
            this.firstSent = day;
        }

        /** An answer, or what lies below it: marked, again. */
        boolean isAnswer() {
            return kind == ANSWER || kind == MARKED || kind == AGAIN;
        }

        /** In the house by a day, and not given. */
        boolean isOpenBy(int day) {
            return kind == ANSWER && tutor == NONE && comes <= day;
        }

        boolean isGivenBy(int day) {
            return kind == ANSWER && tutor != NONE && given <= day;
        }

        boolean isMarkedByBoth(int a, int b) {
            return kind == MARKED && (tutor == a && secondTutor == b || tutor == b && secondTutor == a);
        }
    }

    /** The best way to give answers to tutors, sought in the order by which the first of equals is due. */
    private static final class Sharing {
        private final int[] thing = new int[SHARED];
        private final int[] fit = new int[SHARED];
        private final int[] now = new int[SHARED];
        private final int[] chosen = new int[SHARED];
        // Of the answers from one on: how many can be given at most, and in how many days at least.
        private final int[] mostLater = new int[SHARED + 1];
        private final int[] daysLater = new int[SHARED + 1];
        private final int[] load = new int[TUTORS];
        private final int[] pace = new int[TUTORS];
        private int count = 0;
        private int tutors = 0;
        private int mostGiven = 0;
        private int leastDays = 0;

        void clear() {
            count = 0;
            tutors = 0;
        }

        void addTutor(Tutor u) {
            if (tutors < TUTORS) {
                load[tutors] = u.load;
                pace[tutors] = u.pace;
                tutors++;
            }
        }

        void addThing(int number, int fitting) {
            if (count < SHARED) {
                thing[count] = number;
                fit[count] = fitting;
                count++;
            }
        }

        void solve() {
            mostGiven = -1;
            leastDays = 0;
            lookAhead();
            seek(0, 0, 0);
        }

        private void lookAhead() {
            mostLater[count] = 0;
            daysLater[count] = 0;
            for (int i = count - 1; i >= 0; i--) {
                int days = fewestDays(i);
                mostLater[i] = mostLater[i + 1] + (days > 0 ? 1 : 0);
                daysLater[i] = daysLater[i + 1] + days;
            }
        }

        /** In how many days one alone can be marked; 0 if nobody may mark it. */
        private int fewestDays(int i) {
            int fewest = 0;
            for (int u = 0; u < tutors; u++) {
                int days = cutUp(load[u] + 1, pace[u]);
                if (canTake(u, i) && (fewest == 0 || days < fewest)) {
                    fewest = days;
                }
            }
            return fewest;
        }

        private boolean canTake(int u, int i) {
            return (fit[i] >> u & 1) == 1 && load[u] < MOST_LOAD;
        }

        private void seek(int at, int given, int days) {
            if (!canBeBetter(at, given, days)) {
                return;
            }
            if (at >= count) {
                mostGiven = given;
                leastDays = days;
                System.arraycopy(now, 0, chosen, 0, SHARED);
                return;
            }
            for (int u = 0; u < tutors; u++) {
                if (canTake(u, at)) {
                    load[u]++;
                    now[at] = u;
                    seek(at + 1, given + 1, days + cutUp(load[u], pace[u]));
                    load[u]--;
                }
            }
            now[at] = NONE;
            seek(at + 1, given, days);
        }

        private boolean canBeBetter(int at, int given, int days) {
            int most = given + mostLater[at];
            if (most != mostGiven) {
                return most > mostGiven;
            }
            return days + daysLater[at] < leastDays;
        }

        int tutorOf(int number) {
            for (int i = 0; i < count; i++) {
                if (thing[i] == number) {
                    return chosen[i];
                }
            }
            return NONE;
        }
    }

    private static final class Fees {
        static final int CLAUSES = 6;

        private int count = 0;
        private final boolean[] part = new boolean[CLAUSES];
        private final int[] days = new int[CLAUSES];
        private final int[] amount = new int[CLAUSES];

        void add(boolean isPart, int itsDays, int itsAmount) {
            if (count < CLAUSES) {
                part[count] = isPart;
                days[count] = itsDays;
                amount[count] = itsAmount;
                count++;
            }
        }

        /** The pence of all parts that are due so many days behind the beginning. */
        int partsBy(int since) {
            int sum = 0;
            for (int i = 0; i < count; i++) {
                if (part[i] && days[i] <= since) {
                    sum += amount[i];
                }
            }
            return sum;
        }

        /** The hundredths that come back to who leaves so many days behind the beginning. */
        int backAfter(int since) {
            for (int i = 0; i < count; i++) {
                if (!part[i] && since <= days[i]) {
                    return amount[i];
                }
            }
            return 0;
        }
    }

    /** What was paid, by whom and when; it has room for all calls that one object is used for. */
    private static final class Ledger {
        private final byte[] payer = new byte[PAYMENTS];
        private final int[] pence = new int[PAYMENTS];
        private final short[] paidOn = new short[PAYMENTS];
        private int count = 0;

        boolean enter(int pupil, int amount, int day) {
            if (count >= PAYMENTS) {
                return false;
            }
            payer[count] = (byte) pupil;
            pence[count] = amount;
            paidOn[count] = (short) day;
            count++;
            return true;
        }

        int paidBy(int pupil, int day) {
            int sum = 0;
            for (int i = 0; i < count; i++) {
                if (payer[i] == pupil && paidOn[i] <= day) {
                    sum += pence[i];
                }
            }
            return sum;
        }
    }

    /** A row of a lane, or nothing; what is put in keeps as many of its lowest bits as the lane has. */
    private static final class Sheet {
        static final int NOTHING = -1;

        private int lane = NOTHING;
        private int size = 0;
        private final int[] items = new int[ITEMS];

        void begin(int newLane, int n) {
            lane = newLane;
            size = n;
            Arrays.fill(items, 0);
        }

        /** Why n items from one on can't be had of a row of a lane, or 0. */
        int refusal(int asLane, int at, int n) {
            if (lane == NOTHING) {
                return NULL;
            }
            if (lane != asLane) {
                return CAST;
            }
            // Looked at by what is left behind the first, since their sum may be beyond an int.
            return at < 0 || at > size || n > size - at ? INDEX : 0;
        }

        void put(int i, int v) {
            if (lane == 0) {
                items[i] = (byte) v;
            } else if (lane == 1) {
                items[i] = (short) v;
            } else {
                items[i] = v;
            }
        }
    }
}
