/** What the tests of the project share: answers that are due, and schools that stand ready. */
final class Check {
    private int wrong = 0;
    private String part = "";

    /** What the next answers are about: a promise by its number, or a matter of its own. */
    void about(String what) {
        part = what;
    }

    void due(String call, long got, long want) {
        if (got != want) {
            wrong++;
            System.out.println(part + ": " + call + " answered " + got + ", due is " + want);
        }
    }

    void holds(String what, boolean held) {
        if (!held) {
            wrong++;
            System.out.println(part + ": it does not hold that " + what);
        }
    }

    void end() {
        System.out.println(wrong == 0 ? "all answers are as due" : wrong + " answers are not as due");
        if (wrong != 0) {
            System.exit(1);
        }
    }

    /** Types a text of any length, eight bytes a call: what the last call answered. */
    static int type(LetterSchool x, String text) {
        int answer = 0;
        for (int i = 0; i < text.length(); i += 8) {
            String piece = text.substring(i, Math.min(text.length(), i + 8));
            answer = x.type(word(piece), piece.length());
        }
        return answer;
    }

    static long word(String piece) {
        long w = 0;
        for (int i = 0; i < piece.length(); i++) {
            w = w << 8 | piece.charAt(i);
        }
        return w;
    }

    static int edition(LetterSchool x, int course, int from, String text) {
        type(x, text);
        return x.edition(course, from);
    }

    static int fees(LetterSchool x, int course, String text) {
        type(x, text);
        return x.fees(course);
    }

    /** A school with one edition of course 0 from day 0, and pupils at places 0, 1, .. from day 0. */
    static LetterSchool school(String text, int pupils) {
        LetterSchool x = new LetterSchool();
        edition(x, 0, 0, text);
        for (int i = 0; i < pupils; i++) {
            x.pupil(i % 6, 0, 0);
        }
        return x;
    }

    /** A lesson sent on a day and answered when it has come: the thing. */
    static int answered(LetterSchool x, int pupil, int lesson, int day) {
        int thing = x.send(pupil, lesson, day);
        x.answer(thing, x.thing(thing, 5));
        return thing;
    }

    /** A lesson sent on a day, answered, given and marked as soon as can be: the thing. */
    static int marked(LetterSchool x, int pupil, int lesson, int day, int tutor, int marks) {
        int thing = answered(x, pupil, lesson, day);
        x.give(thing, tutor, x.thing(thing, 5));
        x.mark(thing, marks, marks, marks, x.thing(thing, 5));
        return thing;
    }
}
