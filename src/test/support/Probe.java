import java.util.Arrays;
import java.util.function.Supplier;

/**
 * All that can be seen of a school: what is asked, and what can be seen only by calls that change it. Each part has a school
 * of its own, so that no school is used for more calls than the document promises.
 */
final class Probe {
    /** No part makes more calls. */
    static final int MOST = 290;

    private static final int[] DAYS = {0, 3, 6, 7, 10, 20, 50, 100, 1000, 3999};

    private final Supplier<LetterSchool> anew;
    private int[] answers = new int[1024];
    private String[] parts = new String[1024];
    private int count = 0;
    private String part = "";

    Probe(Supplier<LetterSchool> anew) {
        this.anew = anew;
        courses();
        pupils();
        things();
        tutors();
        shares();
        keys();
        choices();
        doubts();
        tape();
        sheets();
        posts();
        payments();
        backs();
        givenDays();
    }

    /** Where two differ, or null. */
    String unlike(Probe other) {
        for (int i = 0; i < Math.min(count, other.count); i++) {
            if (answers[i] != other.answers[i]) {
                return parts[i] + " answered " + answers[i] + ", then " + other.answers[i];
            }
        }
        return count == other.count ? null : "more is there";
    }

    private LetterSchool begin(String name) {
        part = name;
        return anew.get();
    }

    private int saw(int answer) {
        if (count == answers.length) {
            answers = Arrays.copyOf(answers, 2 * count);
            parts = Arrays.copyOf(parts, 2 * count);
        }
        answers[count] = answer;
        parts[count] = part;
        count++;
        return answer;
    }

    private void courses() {
        for (int course = 0; course < 4; course++) {
            LetterSchool x = begin("course " + course);
            for (int edition = 0; edition < 6; edition++) {
                seeEdition(x, course, edition);
            }
        }
    }

    private void seeEdition(LetterSchool x, int course, int edition) {
        if (saw(x.told(course, edition, 0)) < 0) {
            return;
        }
        saw(x.told(course, edition, 1));
        saw(x.told(course, edition, 2));
        for (int lesson = 0; lesson < 8; lesson++) {
            for (int what = 0; what < 3; what++) {
                saw(x.lesson(course, edition, lesson, what));
            }
        }
    }

    private void pupils() {
        LetterSchool x = begin("counts");
        for (int what = 0; what < 8; what++) {
            saw(x.count(what));
        }
        int n = x.count(0);
        for (int pupil = 0; pupil < n; pupil++) {
            x = pupil % 4 == 0 ? begin("pupils from " + pupil) : x;
            for (int what = 0; what < 7; what++) {
                saw(x.who(pupil, what));
            }
            for (int what = 0; what < 3; what++) {
                saw(x.may(pupil, what));
            }
            for (int lesson = 0; lesson < 8; lesson++) {
                saw(x.lean(pupil, lesson));
                saw(x.best(pupil, lesson, 3999));
            }
            for (int day : DAYS) {
                saw(x.due(pupil, day));
            }
        }
    }

    private void things() {
        LetterSchool x = begin("things");
        int n = x.count(2);
        for (int thing = 0; thing < n; thing++) {
            x = thing % 20 == 0 ? begin("things from " + thing) : x;
            for (int what = 0; what < 8; what++) {
                saw(x.thing(thing, what));
            }
            for (int what = 0; what < 4; what++) {
                saw(x.marks(thing, what));
            }
            saw(x.took(thing));
        }
    }

    private void tutors() {
        LetterSchool x = begin("tutors");
        int n = x.count(1);
        int pupils = x.count(0);
        for (int tutor = 0; tutor < n; tutor++) {
            saw(x.load(tutor));
            for (int pupil = 0; pupil < pupils; pupil++) {
                saw(x.wait(pupil, tutor));
            }
            for (int other = 0; other < n; other++) {
                for (int what = 0; what < 4; what++) {
                    saw(x.offset(tutor, other, what));
                }
            }
            saw(x.kin(tutor, 0));
        }
        saw(x.tutor(15, 9));
    }

    private void shares() {
        for (int day : new int[] {6, 3999}) {
            LetterSchool x = begin("shares by day " + day);
            saw(x.share(day, 0));
            saw(x.share(day, 1));
            int n = x.count(2);
            for (int thing = 0; thing < n; thing++) {
                saw(x.shareOf(day, thing));
            }
        }
    }

    private void keys() {
        LetterSchool x = null;
        for (int name = 0; name < 40; name++) {
            x = x == null || name % 10 == 0 ? begin("keys from " + name) : x;
            for (int at = 0; at < 20; at++) {
                saw(x.key(name, at, 0));
            }
        }
    }

    private void choices() {
        LetterSchool x = begin("choices");
        int n = x.count(2);
        for (int thing = 0; thing < n; thing++) {
            x = thing % 10 == 0 ? begin("choices from " + thing) : x;
            for (int at = 0; at < 20; at++) {
                saw(x.choose(thing, at, 0));
            }
        }
    }

    private void doubts() {
        LetterSchool x = begin("doubts");
        for (int i = 0; i < 10; i++) {
            saw(x.doubted(i));
        }
        saw(x.limit(0));
        for (int i = 0; i < 40; i++) {
            saw(x.doubted(i));
        }
    }

    /** What stands on the tape, by reading it as either kind of text. */
    private void tape() {
        LetterSchool x = begin("tape");
        saw(x.type(' ', 1));
        saw(x.edition(3, 3999));
        for (int edition = 0; edition < 6; edition++) {
            seeEdition(x, 3, edition);
        }
        x = begin("tape of fees");
        saw(x.fees(3));
        int pupil = x.pupil(0, 3, 3999);
        if (saw(pupil) >= 0) {
            saw(x.due(pupil, 3999));
        }
    }

    private void sheets() {
        for (int sheet = 0; sheet < 4; sheet++) {
            LetterSchool x = begin("sheet " + sheet);
            int thing = anAnswer(x);
            int lane = laneOf(x, sheet);
            saw(lane);
            for (int i = 0; i < 30 && thing >= 0 && lane >= 0; i++) {
                saw(x.choices(thing, sheet, lane, i, 1));
                saw(x.choose(thing, 0, 0));
            }
            saw(x.drop(sheet));
        }
    }

    private static int anAnswer(LetterSchool x) {
        int n = x.count(2);
        for (int i = 0; i < n; i++) {
            int kind = x.thing(i, 0);
            if (kind > 0 && kind < 4) {
                return i;
            }
        }
        return -1;
    }

    /** Item -1 is nowhere, so that nothing is put. */
    private static int laneOf(LetterSchool x, int sheet) {
        for (int lane = 0; lane < 3; lane++) {
            if (x.item(sheet, lane, -1, 0) == LetterSchool.INDEX) {
                return lane;
            }
        }
        return -1;
    }

    /** How many days a post takes, and which of the next things it loses. */
    private void posts() {
        for (int place = 0; place < 6; place++) {
            LetterSchool x = begin("post of place " + place);
            int pupil = someoneAt(x, place);
            if (saw(pupil) < 0) {
                continue;
            }
            int lesson = Integer.numberOfTrailingZeros(x.may(pupil, 0));
            for (int i = 0; i < 18; i++) {
                saw(x.thing(x.send(pupil, lesson, 3999), 5));
            }
        }
    }

    private static int someoneAt(LetterSchool x, int place) {
        int n = x.count(0);
        for (int pupil = 0; pupil < n; pupil++) {
            if (x.who(pupil, 0) == place && x.may(pupil, 0) > 0 && x.who(pupil, 5) == LetterSchool.NONE) {
                return pupil;
            }
        }
        for (int course = 0; course < 4; course++) {
            int pupil = x.pupil(place, course, 3999);
            if (pupil >= 0 && x.may(pupil, 0) > 0) {
                return pupil;
            }
        }
        return -1;
    }

    /** On which days was paid, by fees that are due at once. */
    private void payments() {
        LetterSchool x = begin("payments");
        int pupils = x.count(0);
        x.fees(0);
        for (int course = 0; course < 4; course++) {
            Check.fees(x, course, "p0=99999;p0=99999;p0=99999;p0=99999");
        }
        for (int pupil = 0; pupil < pupils; pupil++) {
            for (int day : DAYS) {
                saw(x.due(pupil, day));
            }
        }
    }

    /** What comes back to who leaves. */
    private void backs() {
        for (int days : new int[] {0, 5, 20, 999, 1000}) {
            LetterSchool x = begin("what comes back behind " + days);
            int pupils = x.count(0);
            for (int pupil = 0; pupil < pupils; pupil++) {
                int begin = x.who(pupil, 3);
                saw(x.pay(pupil, 10000, begin));
                saw(x.leave(pupil, Math.min(3999, begin + days)));
            }
        }
    }

    /** On which days things were given, by the first on which they can be marked; and when they were first sent. */
    private void givenDays() {
        LetterSchool x = begin("days of giving");
        int n = x.count(2);
        int left = 4;
        for (int thing = 0; thing < n && left > 0; thing++) {
            if (x.thing(thing, 0) != 1 || x.thing(thing, 6) < 0) {
                continue;
            }
            left--;
            int comes = x.thing(thing, 5);
            for (int i = 0; i < 12 && x.thing(thing, 0) == 1; i++) {
                saw(x.mark(thing, 0, 0, 0, Math.min(3999, i < 11 ? comes + i : 3999)));
            }
            saw(x.took(thing));
        }
    }
}
