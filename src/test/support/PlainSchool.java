import java.util.ArrayList;
import java.util.Arrays;
import java.util.HashSet;
import java.util.List;
import java.util.Map;
import java.util.Set;
import java.util.TreeMap;
import java.util.TreeSet;
import java.util.function.Predicate;

/**
 * The document once more, written for plainness with the whole library: nothing is kept that can be counted anew, the
 * shares are all tried, and what a lesson leans on is a tree. Tests put it beside LetterSchool.
 */
final class PlainSchool {
    private static final int BAD = -1, NOT = -2, FULL = -3, NONE = -4, NULL = -11, CAST = -12, INDEX = -13, SIZE = -14;

    /** A text that can't be read, with the place of its fault. */
    private static final class Fault extends RuntimeException {
        private static final long serialVersionUID = 1;
        final int place;

        Fault(int place) {
            this.place = place;
        }
    }

    private static final class Lesson {
        int name;
        int pass;
        Set<Integer> stands = new TreeSet<>();
        /** What it leans on, asked of the best marks by lessons (-1: none). */
        Predicate<Map<Integer, Integer>> leans = best -> true;
    }

    private static final class Edition {
        int from;
        Map<Integer, Lesson> lessons = new TreeMap<>();
    }

    private static final class Clause {
        char kind;
        int days;
        int amount;
    }

    private static final class Course {
        List<Edition> editions = new ArrayList<>();
        List<Clause> fees = new ArrayList<>();
    }

    private static final class Pupil {
        int place, course, edition, begin, habit = 5, left = NONE;
        List<int[]> payments = new ArrayList<>();
    }

    private static final class Thing {
        int kind, pupil, name, letter, first, sent, comes, tutor = NONE, given, again;
        int marks, markedOn, secondTutor = NONE, secondMarks = NONE;
        int[] choices = new int[20];
    }

    private static final class Tutor {
        int teaches, pace, kin;
    }

    private final StringBuilder tape = new StringBuilder();
    private final List<Course> courses = List.of(new Course(), new Course(), new Course(), new Course());
    private final List<Pupil> pupils = new ArrayList<>();
    private final List<Thing> things = new ArrayList<>();
    private final List<Tutor> tutors = new ArrayList<>();
    private final int[] postDays = {3, 3, 3, 3, 3, 3};
    private final int[] postEach = new int[6];
    private final int[] postSent = new int[6];
    private final int[][] keys = new int[40][20];
    private int limit = 5;
    private final Object[] sheets = new Object[4];

    // ---- reading

    /** Reads a text from the left; each sign that is looked at is the next behind blanks. */
    private static final class Reader {
        final String text;
        int at = 0;

        Reader(String text) {
            this.text = text;
        }

        char look() {
            while (at < text.length() && text.charAt(at) == ' ') {
                at++;
            }
            return at < text.length() ? text.charAt(at) : 0;
        }

        Fault fault() {
            look();
            return new Fault(at);
        }

        boolean on(char sign) {
            if (look() != sign) {
                return false;
            }
            at++;
            return true;
        }

        void must(char sign) {
            if (!on(sign)) {
                throw fault();
            }
        }

        int number(int most) {
            look();
            int end = at;
            while (end < text.length() && Character.isDigit(text.charAt(end))) {
                end++;
            }
            if (end == at || new java.math.BigInteger(text.substring(at, end)).compareTo(java.math.BigInteger.valueOf(most)) > 0) {
                throw fault();
            }
            int value = Integer.parseInt(text.substring(at, end));
            at = end;
            return value;
        }

        int letter() {
            char sign = look();
            if (sign < 'a' || sign > 'h') {
                throw fault();
            }
            at++;
            return sign - 'a';
        }
    }

    private static Edition readEdition(String text) {
        Reader r = new Reader(text);
        Edition e = new Edition();
        Set<Integer> standing = new HashSet<>();
        while (true) {
            r.look();
            int place = r.at;
            int letter = r.letter();
            if (e.lessons.containsKey(letter)) {
                throw new Fault(place);
            }
            Lesson l = new Lesson();
            e.lessons.put(letter, l);
            r.must('=');
            l.name = r.number(39);
            r.must('/');
            l.pass = r.number(100);
            if (r.on(':')) {
                l.leans = readCases(r, e, l, 0);
            }
            standing.addAll(l.stands);
            if (r.look() == 0) {
                break;
            }
            if (e.lessons.size() == 8) {
                throw r.fault();
            }
            r.must(';');
        }
        if (!e.lessons.keySet().containsAll(standing)) {
            throw new Fault(text.length());
        }
        return e;
    }

    private static Predicate<Map<Integer, Integer>> readCases(Reader r, Edition e, Lesson l, int open) {
        Predicate<Map<Integer, Integer>> all = readCase(r, e, l, open);
        while (r.on('|')) {
            all = all.or(readCase(r, e, l, open));
        }
        return all;
    }

    private static Predicate<Map<Integer, Integer>> readCase(Reader r, Edition e, Lesson l, int open) {
        Predicate<Map<Integer, Integer>> all = readClaim(r, e, l, open);
        while (r.on('&')) {
            all = all.and(readClaim(r, e, l, open));
        }
        return all;
    }

    private static Predicate<Map<Integer, Integer>> readClaim(Reader r, Edition e, Lesson l, int open) {
        if (r.on('!')) {
            return readBare(r, e, l, open).negate();
        }
        return readBare(r, e, l, open);
    }

    private static Predicate<Map<Integer, Integer>> readBare(Reader r, Edition e, Lesson l, int open) {
        if (r.look() == '(' && open < 6) {
            r.must('(');
            Predicate<Map<Integer, Integer>> inner = readCases(r, e, l, open + 1);
            r.must(')');
            return inner;
        }
        int letter = r.letter();
        l.stands.add(letter);
        if (r.on('>')) {
            int marks = r.number(100);
            return best -> best.get(letter) > marks;
        }
        return best -> best.get(letter) >= e.lessons.get(letter).pass;
    }

    private static List<Clause> readFees(String text) {
        Reader r = new Reader(text);
        List<Clause> all = new ArrayList<>();
        while (true) {
            Clause one = new Clause();
            one.kind = r.look();
            if (one.kind != 'p' && one.kind != 'b') {
                throw r.fault();
            }
            r.must(one.kind);
            one.days = r.number(999);
            r.must('=');
            one.amount = r.number(one.kind == 'p' ? 99999 : 100);
            all.add(one);
            if (r.look() == 0) {
                return all;
            }
            if (all.size() == 6) {
                throw r.fault();
            }
            r.must(';');
        }
    }

    // ---- what is asked of what is kept

    private static boolean day(int d) {
        return 0 <= d && d <= 3999;
    }

    private static boolean in(int n, int least, int most) {
        return least <= n && n <= most;
    }

    private static <T> T get(List<T> list, int i) {
        return i >= 0 && i < list.size() ? list.get(i) : null;
    }

    private Edition editionOf(Pupil p) {
        return courses.get(p.course).editions.get(p.edition);
    }

    private int inForce(int course, int d) {
        int found = NONE;
        List<Edition> all = courses.get(course).editions;
        for (int i = 0; i < all.size(); i++) {
            if (all.get(i).from <= d) {
                found = i;
            }
        }
        return found;
    }

    private int bestOfName(int pupil, int name, int d) {
        return things.stream().filter(t -> t.kind == 2 && t.pupil == pupil && t.name == name && t.markedOn <= d)
            .mapToInt(t -> t.marks).max().orElse(-1);
    }

    private Map<Integer, Integer> bests(int pupil) {
        Map<Integer, Integer> best = new TreeMap<>();
        editionOf(pupils.get(pupil)).lessons.forEach((k, l) -> best.put(k, bestOfName(pupil, l.name, 3999)));
        return best;
    }

    private static Set<Integer> passed(Edition e, Map<Integer, Integer> best) {
        Set<Integer> all = new TreeSet<>();
        e.lessons.forEach((k, l) -> {
            if (best.get(k) >= l.pass) {
                all.add(k);
            }
        });
        return all;
    }

    private static Set<Integer> open(Edition e, Map<Integer, Integer> best) {
        Set<Integer> all = new TreeSet<>();
        Set<Integer> done = passed(e, best);
        e.lessons.forEach((k, l) -> {
            if (!done.contains(k) && l.leans.test(best)) {
                all.add(k);
            }
        });
        return all;
    }

    private static int bits(Set<Integer> set) {
        return set.stream().mapToInt(k -> 1 << k).sum();
    }

    private boolean left(int pupil, int d) {
        Pupil p = pupils.get(pupil);
        return p.left != NONE && d >= p.left;
    }

    private int loadOf(int tutor) {
        return (int) things.stream().filter(t -> t.kind == 1 && t.tutor == tutor).count();
    }

    private boolean fits(Thing t, int tutor) {
        Tutor u = tutors.get(tutor);
        return (u.teaches & 1 << t.name / 10) != 0 && (u.kin & 1 << t.pupil) == 0;
    }

    private static boolean isAnswer(Thing t) {
        return t.kind >= 1 && t.kind <= 3;
    }

    private int mail(Thing t, int d) {
        int place = pupils.get(t.pupil).place;
        postSent[place]++;
        t.sent = d;
        t.comes = d + postDays[place];
        if (postEach[place] > 0 && postSent[place] % postEach[place] == 0) {
            t.kind = 4;
            t.comes = NONE;
        }
        return t.comes;
    }

    private int knows(Thing t) {
        return t.markedOn + postDays[pupils.get(t.pupil).place];
    }

    private int paidBy(Pupil p, int d) {
        return p.payments.stream().filter(one -> one[1] <= d).mapToInt(one -> one[0]).sum();
    }

    private static int up(int a, int b) {
        return a / b + (a % b == 0 ? 0 : 1);
    }

    // ---- 1

    int type(long w, int n) {
        if (!in(n, 1, 8)) {
            return BAD;
        }
        StringBuilder more = new StringBuilder();
        for (int i = n - 1; i >= 0; i--) {
            char sign = (char) (w >> 8 * i & 255);
            if (sign < 32 || sign > 126) {
                return BAD;
            }
            more.append(sign);
        }
        if (tape.length() + n > 120) {
            return FULL;
        }
        return tape.append(more).length();
    }

    int edition(int course, int from) {
        Course k = get(courses, course);
        if (k == null || !day(from) || k.editions.stream().anyMatch(e -> e.from > from)) {
            return BAD;
        }
        String text = tape.toString();
        tape.setLength(0);
        try {
            Edition e = readEdition(text);
            e.from = from;
            if (k.editions.size() == 6) {
                return FULL;
            }
            k.editions.add(e);
            return k.editions.size() - 1;
        } catch (Fault f) {
            return -20 - f.place;
        }
    }

    int told(int course, int edition, int what) {
        Course k = get(courses, course);
        Edition e = k == null ? null : get(k.editions, edition);
        if (e == null || !in(what, 0, 2)) {
            return BAD;
        }
        return new int[] {e.from, e.lessons.size(), bits(e.lessons.keySet())}[what];
    }

    int lesson(int course, int edition, int lesson, int what) {
        Course k = get(courses, course);
        Edition e = k == null ? null : get(k.editions, edition);
        if (e == null || !e.lessons.containsKey(lesson) || !in(what, 0, 2)) {
            return BAD;
        }
        Lesson l = e.lessons.get(lesson);
        return new int[] {l.name, l.pass, bits(l.stands)}[what];
    }

    int pupil(int place, int course, int d) {
        if (!in(place, 0, 5) || !in(course, 0, 3) || !day(d)) {
            return BAD;
        }
        if (inForce(course, d) == NONE) {
            return NOT;
        }
        if (pupils.size() == 12) {
            return FULL;
        }
        Pupil p = new Pupil();
        p.place = place;
        p.course = course;
        p.edition = inForce(course, d);
        p.begin = d;
        pupils.add(p);
        return pupils.size() - 1;
    }

    int who(int pupil, int what) {
        Pupil p = get(pupils, pupil);
        if (p == null || !in(what, 0, 6)) {
            return BAD;
        }
        return new int[] {p.place, p.course, p.edition, p.begin, p.habit, p.left, paidBy(p, 3999)}[what];
    }

    int habit(int pupil, int days) {
        Pupil p = get(pupils, pupil);
        if (p == null || !in(days, 0, 60)) {
            return BAD;
        }
        int was = p.habit;
        p.habit = days;
        return was;
    }

    int best(int pupil, int lesson, int d) {
        Pupil p = get(pupils, pupil);
        if (p == null || !editionOf(p).lessons.containsKey(lesson) || !day(d)) {
            return BAD;
        }
        int most = bestOfName(pupil, editionOf(p).lessons.get(lesson).name, d);
        return most == -1 ? NONE : most;
    }

    int may(int pupil, int what) {
        Pupil p = get(pupils, pupil);
        if (p == null || !in(what, 0, 2)) {
            return BAD;
        }
        Edition e = editionOf(p);
        Set<Integer> lack = new TreeSet<>(e.lessons.keySet());
        lack.removeAll(passed(e, bests(pupil)));
        return bits(List.of(open(e, bests(pupil)), passed(e, bests(pupil)), lack).get(what));
    }

    int lean(int pupil, int lesson) {
        Pupil p = get(pupils, pupil);
        if (p == null || !editionOf(p).lessons.containsKey(lesson)) {
            return BAD;
        }
        Edition e = editionOf(p);
        Set<Map<Integer, Integer>> seen = new HashSet<>();
        Set<Map<Integer, Integer>> front = new HashSet<>(Set.of(bests(pupil)));
        for (int steps = 0; !front.isEmpty(); steps++) {
            Set<Map<Integer, Integer>> next = new HashSet<>();
            for (Map<Integer, Integer> best : front) {
                if (passed(e, best).contains(lesson)) {
                    return steps;
                }
                for (int had : open(e, best)) {
                    Map<Integer, Integer> then = new TreeMap<>(best);
                    e.lessons.forEach((k, l) -> {
                        if (l.name == e.lessons.get(had).name) {
                            then.put(k, 100);
                        }
                    });
                    next.add(then);
                }
            }
            seen.addAll(front);
            next.removeAll(seen);
            front = next;
        }
        return NONE;
    }

    // ---- 2

    int post(int place, int days, int each) {
        if (!in(place, 0, 5) || !in(days, 1, 60) || each != 0 && !in(each, 2, 9)) {
            return BAD;
        }
        postDays[place] = days;
        postEach[place] = each;
        postSent[place] = 0;
        return 1;
    }

    int send(int pupil, int lesson, int d) {
        Pupil p = get(pupils, pupil);
        if (p == null || !editionOf(p).lessons.containsKey(lesson) || !day(d) || d < p.begin) {
            return BAD;
        }
        if (!open(editionOf(p), bests(pupil)).contains(lesson) || left(pupil, d)) {
            return NOT;
        }
        if (things.size() == 80) {
            return FULL;
        }
        Thing t = new Thing();
        t.pupil = pupil;
        t.name = editionOf(p).lessons.get(lesson).name;
        t.letter = lesson;
        t.first = d;
        things.add(t);
        mail(t, d);
        return things.size() - 1;
    }

    int answer(int thing, int d) {
        Thing t = get(things, thing);
        if (t == null || !day(d)) {
            return BAD;
        }
        if (t.kind == 4) {
            return CAST;
        }
        if (t.kind != 0 && t.kind != 3 || d < t.comes || left(t.pupil, d)) {
            return NOT;
        }
        t.kind = 1;
        return mail(t, d);
    }

    int give(int thing, int tutor, int d) {
        Thing t = get(things, thing);
        if (t == null || get(tutors, tutor) == null || !day(d)) {
            return BAD;
        }
        if (!isAnswer(t)) {
            return CAST;
        }
        if (t.kind != 1 || t.tutor != NONE || d < t.comes || !fits(t, tutor)) {
            return NOT;
        }
        if (loadOf(tutor) == 12) {
            return FULL;
        }
        t.tutor = tutor;
        t.given = d;
        return loadOf(tutor);
    }

    int mark(int thing, int first, int second, int third, int d) {
        Thing t = get(things, thing);
        if (t == null || !in(first, 0, 100) || !in(second, 0, 100) || !in(third, 0, 100) || !day(d)) {
            return BAD;
        }
        if (!isAnswer(t)) {
            return CAST;
        }
        if (t.kind != 1 || t.tutor == NONE || d < t.given) {
            return NOT;
        }
        t.kind = 2;
        t.markedOn = d;
        t.marks = (first + first + second + third) / 4;
        return t.marks;
    }

    int again(int thing, int d) {
        Thing t = get(things, thing);
        if (t == null || !day(d)) {
            return BAD;
        }
        if (!isAnswer(t)) {
            return CAST;
        }
        if (t.kind != 1 || t.tutor == NONE || d < t.given || t.again == 2) {
            return NOT;
        }
        t.kind = 3;
        t.tutor = NONE;
        t.again++;
        return mail(t, d);
    }

    int second(int thing, int tutor, int first, int second, int third) {
        Thing t = get(things, thing);
        if (t == null || get(tutors, tutor) == null || !in(first, 0, 100) || !in(second, 0, 100) || !in(third, 0, 100)) {
            return BAD;
        }
        if (t.kind != 2) {
            return CAST;
        }
        if (t.tutor == tutor || t.secondTutor != NONE) {
            return NOT;
        }
        t.secondTutor = tutor;
        t.secondMarks = (first + first + second + third) / 4;
        return t.secondMarks;
    }

    int thing(int thing, int what) {
        Thing t = get(things, thing);
        if (t == null || !in(what, 0, 7)) {
            return BAD;
        }
        return new int[] {t.kind, t.pupil, t.name, t.letter, t.sent, t.comes, t.tutor, t.again}[what];
    }

    int marks(int thing, int what) {
        Thing t = get(things, thing);
        if (t == null || !in(what, 0, 3)) {
            return BAD;
        }
        return t.kind != 2 ? CAST : new int[] {t.marks, t.markedOn, t.secondMarks, knows(t)}[what];
    }

    int count(int what) {
        if (!in(what, 0, 7)) {
            return BAD;
        }
        if (what < 3) {
            return new int[] {pupils.size(), tutors.size(), things.size()}[what];
        }
        return (int) things.stream().filter(t -> t.kind == what - 3).count();
    }

    // ---- 3

    int tutor(int teaches, int pace) {
        if (!in(teaches, 0, 15) || !in(pace, 1, 9)) {
            return BAD;
        }
        if (tutors.size() == 6) {
            return FULL;
        }
        Tutor u = new Tutor();
        u.teaches = teaches;
        u.pace = pace;
        tutors.add(u);
        return tutors.size() - 1;
    }

    int kin(int tutor, int kin) {
        Tutor u = get(tutors, tutor);
        if (u == null || !in(kin, 0, 4095)) {
            return BAD;
        }
        int was = u.kin;
        u.kin = kin;
        return was;
    }

    int load(int tutor) {
        return get(tutors, tutor) == null ? BAD : loadOf(tutor);
    }

    int wait(int pupil, int tutor) {
        Pupil p = get(pupils, pupil);
        Tutor u = get(tutors, tutor);
        if (p == null || u == null) {
            return BAD;
        }
        return postDays[p.place] + p.habit + postDays[p.place] + up(loadOf(tutor) + 1, u.pace);
    }

    int took(int thing) {
        Thing t = get(things, thing);
        if (t == null) {
            return BAD;
        }
        return t.kind != 2 ? CAST : knows(t) - t.first;
    }

    /** The answers that are shared by a day. */
    private List<Integer> waiting(int d) {
        List<Integer> all = new ArrayList<>();
        for (int i = 0; i < things.size() && all.size() < 6; i++) {
            Thing t = things.get(i);
            if (t.kind == 1 && t.tutor == NONE && t.comes <= d) {
                all.add(i);
            }
        }
        return all;
    }

    /** How many, days, and the tutor of each (their number: none): the first of the best of all ways. */
    private int[] allShares(List<Integer> waiting) {
        int n = tutors.size();
        int[] now = new int[waiting.size()];
        int[] loads = new int[n];
        for (int u = 0; u < n; u++) {
            loads[u] = loadOf(u);
        }
        int[] best = null;
        boolean more = true;
        while (more) {
            int[] worth = worth(waiting, now, loads.clone());
            if (worth != null && (best == null || worth[0] > best[0] || worth[0] == best[0] && worth[1] < best[1])) {
                best = worth;
            }
            int at = now.length - 1;
            while (at >= 0 && now[at] == n) {
                now[at] = 0;
                at--;
            }
            more = at >= 0;
            if (more) {
                now[at]++;
            }
        }
        return best;
    }

    private int[] worth(List<Integer> waiting, int[] now, int[] loads) {
        int[] worth = new int[2 + now.length];
        for (int i = 0; i < now.length; i++) {
            worth[2 + i] = now[i];
            if (now[i] == loads.length) {
                continue;
            }
            if (!fits(things.get(waiting.get(i)), now[i]) || loads[now[i]] == 12) {
                return null;
            }
            loads[now[i]]++;
            worth[0]++;
            worth[1] += up(loads[now[i]], tutors.get(now[i]).pace);
        }
        return worth;
    }

    int share(int d, int what) {
        if (!day(d) || !in(what, 0, 1)) {
            return BAD;
        }
        return allShares(waiting(d))[what];
    }

    int shareOf(int d, int thing) {
        if (!day(d) || get(things, thing) == null) {
            return BAD;
        }
        int at = waiting(d).indexOf(thing);
        if (at < 0) {
            return NONE;
        }
        int tutor = allShares(waiting(d))[2 + at];
        return tutor == tutors.size() ? NONE : tutor;
    }

    int offset(int a, int b, int what) {
        if (get(tutors, a) == null || get(tutors, b) == null || a == b || !in(what, 0, 3)) {
            return -1001;
        }
        List<Integer> offs = new ArrayList<>();
        for (Thing t : things) {
            if (t.kind == 2 && t.tutor == a && t.secondTutor == b) {
                offs.add(t.marks - t.secondMarks);
            }
            if (t.kind == 2 && t.tutor == b && t.secondTutor == a) {
                offs.add(t.secondMarks - t.marks);
            }
        }
        if (what == 0) {
            return offs.size();
        }
        if (offs.isEmpty()) {
            return -1004;
        }
        var all = offs.stream().mapToInt(i -> i).summaryStatistics();
        return new int[] {(int) all.getSum() / offs.size(), all.getMin(), all.getMax()}[what - 1];
    }

    // ---- 4

    int key(int name, int at, int choice) {
        if (!in(name, 0, 39) || !in(at, 0, 19) || !in(choice, 0, 4)) {
            return BAD;
        }
        int was = keys[name][at];
        keys[name][at] = choice;
        return was;
    }

    int choose(int thing, int at, int choice) {
        Thing t = get(things, thing);
        if (t == null || !in(at, 0, 19) || !in(choice, 0, 4)) {
            return BAD;
        }
        if (!isAnswer(t)) {
            return CAST;
        }
        int was = t.choices[at];
        t.choices[at] = choice;
        return was;
    }

    int like(int a, int b) {
        Thing s = get(things, a);
        Thing t = get(things, b);
        if (s == null || t == null || a == b) {
            return BAD;
        }
        if (!isAnswer(s) || !isAnswer(t)) {
            return CAST;
        }
        if (s.name != t.name || s.pupil == t.pupil) {
            return NOT;
        }
        int n = 0;
        for (int i = 0; i < 20; i++) {
            n += s.choices[i] == t.choices[i] && t.choices[i] != keys[t.name][i] ? 1 : 0;
        }
        return n;
    }

    int limit(int n) {
        if (!in(n, 0, 19)) {
            return BAD;
        }
        int was = limit;
        limit = n;
        return was;
    }

    int doubted(int i) {
        List<Integer> pairs = new ArrayList<>();
        for (int a = 0; a < things.size(); a++) {
            for (int b = a + 1; b < things.size(); b++) {
                if (like(a, b) > limit) {
                    pairs.add(80 * a + b);
                }
            }
        }
        if (i < 0) {
            return BAD;
        }
        return i < pairs.size() ? pairs.get(i) : NONE;
    }

    // ---- 5

    int fees(int course) {
        if (get(courses, course) == null) {
            return BAD;
        }
        String text = tape.toString();
        tape.setLength(0);
        try {
            courses.get(course).fees = readFees(text);
            return courses.get(course).fees.size();
        } catch (Fault f) {
            return -20 - f.place;
        }
    }

    int pay(int pupil, int pence, int d) {
        Pupil p = get(pupils, pupil);
        if (p == null || !in(pence, 1, 99999) || !day(d) || d < p.begin) {
            return BAD;
        }
        if (left(pupil, d)) {
            return NOT;
        }
        p.payments.add(new int[] {pence, d});
        return paidBy(p, 3999);
    }

    int due(int pupil, int d) {
        Pupil p = get(pupils, pupil);
        if (p == null || !day(d)) {
            return BAD;
        }
        int parts = courses.get(p.course).fees.stream().filter(k -> k.kind == 'p' && p.begin + k.days <= d)
            .mapToInt(k -> k.amount).sum();
        return Math.max(0, parts - paidBy(p, d));
    }

    int leave(int pupil, int d) {
        Pupil p = get(pupils, pupil);
        if (p == null || !day(d) || d < p.begin) {
            return BAD;
        }
        if (p.left != NONE) {
            return NOT;
        }
        p.left = d;
        int back = courses.get(p.course).fees.stream().filter(k -> k.kind == 'b' && d <= p.begin + k.days)
            .mapToInt(k -> k.amount).findFirst().orElse(0);
        return (int) ((long) paidBy(p, d) * back / 100);
    }

    int move(int pupil, int course, int d) {
        Pupil p = get(pupils, pupil);
        if (p == null || !in(course, 0, 3) || !day(d)) {
            return BAD;
        }
        if (left(pupil, d) || inForce(course, d) == NONE) {
            return NOT;
        }
        p.course = course;
        p.edition = inForce(course, d);
        return passed(editionOf(p), bests(pupil)).size();
    }

    // ---- 6

    int sheet(int sheet, int lane, int n) {
        if (!in(sheet, 0, 3) || !in(lane, 0, 2) || n > 30) {
            return BAD;
        }
        if (n < 0) {
            return SIZE;
        }
        sheets[sheet] = lane == 0 ? new byte[n] : lane == 1 ? new short[n] : new int[n];
        return n;
    }

    private static int laneOf(Object row) {
        return row instanceof byte[] ? 0 : row instanceof short[] ? 1 : 2;
    }

    int drop(int sheet) {
        if (!in(sheet, 0, 3)) {
            return BAD;
        }
        if (sheets[sheet] == null) {
            return NULL;
        }
        int n = java.lang.reflect.Array.getLength(sheets[sheet]);
        sheets[sheet] = null;
        return n;
    }

    int item(int sheet, int lane, int i, int v) {
        if (!in(sheet, 0, 3) || !in(lane, 0, 2)) {
            return BAD;
        }
        Object row = sheets[sheet];
        if (row == null) {
            return NULL;
        }
        if (laneOf(row) != lane) {
            return CAST;
        }
        if (i < 0 || i >= java.lang.reflect.Array.getLength(row)) {
            return INDEX;
        }
        if (row instanceof byte[] b) {
            b[i] = (byte) v;
        } else if (row instanceof short[] s) {
            s[i] = (short) v;
        } else {
            ((int[]) row)[i] = v;
        }
        return 1;
    }

    int choices(int thing, int sheet, int lane, int from, int n) {
        Thing t = get(things, thing);
        if (t == null || !in(sheet, 0, 3) || !in(lane, 0, 2) || !in(n, 0, 20)) {
            return BAD;
        }
        if (!isAnswer(t)) {
            return CAST;
        }
        Object row = sheets[sheet];
        if (row == null) {
            return NULL;
        }
        if (laneOf(row) != lane) {
            return CAST;
        }
        if (from < 0 || (long) from + n > java.lang.reflect.Array.getLength(row)) {
            return INDEX;
        }
        int[] read = new int[n];
        for (int i = 0; i < n; i++) {
            read[i] = java.lang.reflect.Array.getInt(row, from + i);
        }
        if (Arrays.stream(read).anyMatch(v -> !in(v, 0, 4))) {
            return NOT;
        }
        System.arraycopy(read, 0, t.choices, 0, n);
        return n;
    }
}
