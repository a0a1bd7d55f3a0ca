/** The boundary cases that the document names for many calls at once: what it is, the face, the first lines of the terms. */
public final class EdgesTermsTest {
    private static final Edge c = new Edge();

    public static void main(String[] args) {
        lastCall();
        constants();
        newObject();
        marksAreCut();
        offsetsAreCut();
        backIsCut();
        daysOfCourses();
        daysOfThings();
        daysOfShares();
        daysOfPupils();
        c.end();
    }

    private static void lastCall() {
        Run r = c.edge(1, "An object is used for at most 512 calls after it has been made; what later calls answer is free.");
        r.edition(0, 0, 0, "a=1/50").due(0, "pupil", 0, 0, 0);
        for (int i = 1; i <= Run.CALLS - 4; i++) {
            r.due(i, "pay", 0, 1, i);
        }
        r.due(Run.CALLS - 4, "who", 0, 6);
    }

    private static void constants() {
        Run r = c.edge(1, "BAD = -1, NOT = -2, FULL = -3, NONE = -4, NULL = -11, CAST = -12, INDEX = -13, SIZE = -14");
        r.is("BAD", LetterSchool.BAD, -1);
        r.is("NOT", LetterSchool.NOT, -2);
        r.is("FULL", LetterSchool.FULL, -3);
        r.is("NONE", LetterSchool.NONE, -4);
        r.is("NULL", LetterSchool.NULL, -11);
        r.is("CAST", LetterSchool.CAST, -12);
        r.is("INDEX", LetterSchool.INDEX, -13);
        r.is("SIZE", LetterSchool.SIZE, -14);
    }

    private static void newObject() {
        Run r = c.edge(1, "No EDITIONS, no FEES, nobody.");
        for (int course = 0; course < 4; course++) {
            r.asked(Edge.BAD, "told", course, 0, 0);
            r.asked(Edge.BAD, "lesson", course, 0, 0, 0);
            r.refused(Edge.NOT, "pupil", 0, course, 3999);
        }
        for (int what = 0; what < 8; what++) {
            r.asked(0, "count", what);
        }
        r.asked(Edge.BAD, "who", 0, 0).asked(Edge.BAD, "load", 0).asked(Edge.BAD, "thing", 0, 0);
        r.asked(0, "share", 3999, 0).asked(0, "share", 3999, 1).asked(Edge.NONE, "doubted", 0);
        r.school(1, "a=1/50").asked(0, "due", 0, 3999).due(50, "pay", 0, 50, 0).due(0, "leave", 0, 0);
    }

    private static void marksAreCut() {
        Run r = c.edge(16, "Divisions are cut toward 0.");
        r.school(1, "a=1/50").tutors(1, 9);
        int[][] parts = {{0, 0, 3, 0}, {0, 1, 3, 1}, {0, 0, 4, 1}, {1, 1, 0, 0}, {1, 1, 1, 1}, {33, 33, 34, 33}, {100, 99, 100, 99}};
        for (int[] p : parts) {
            int thing = r.given(0, 0, 0, 0);
            r.due(p[3], "mark", thing, p[0], p[1], p[2], 6);
        }
    }

    private static void offsetsAreCut() {
        Run r = c.edge(29, "Divisions are cut toward 0.");
        r.school(1, "a=1/100").tutors(2, 9);
        r.due(11, "second", r.marked(0, 0, 0, 0, 10), 1, 11, 11, 11);
        r.due(10, "second", r.marked(0, 0, 0, 0, 10), 1, 10, 10, 10);
        r.asked(0, "offset", 0, 1, 1).asked(0, "offset", 1, 0, 1);
        r.due(14, "second", r.marked(0, 0, 0, 0, 10), 1, 14, 14, 14);
        r.asked(-1, "offset", 0, 1, 1).asked(1, "offset", 1, 0, 1);
    }

    private static void backIsCut() {
        Run r = c.edge(38, "Divisions are cut toward 0.");
        r.school(2, "a=1/50").fees(1, 0, "b0=99");
        r.due(1, "pay", 0, 1, 0).due(0, "leave", 0, 0);
        r.due(101, "pay", 1, 101, 0).due(99, "leave", 1, 0);
    }

    private static void daysOfCourses() {
        Run r = c.edge(3, "DAYS are 0 .. 3999.");
        r.types("a=1/50").goes(1, 0, 3999, "edition", 0, 0).due(0, "edition", 0, 0);
        r = c.edge(6, "DAYS are 0 .. 3999.");
        r.school(0, "a=1/50").goes(2, 0, 3999, "pupil", 0, 0, 0);
        r = c.edge(9, "DAYS are 0 .. 3999.");
        r.school(1, "a=1/50").goes(2, 0, 3999, "best", 0, 0, 0);
        r = c.edge(39, "DAYS are 0 .. 3999.");
        r.school(1, "a=1/50").goes(2, 0, 3999, "move", 0, 0, 0);
    }

    private static void daysOfThings() {
        Run r = c.edge(13, "DAYS are 0 .. 3999.");
        r.school(1, "a=1/50").tutors(1, 9).goes(2, 0, 3999, "send", 0, 0, 0);
        r = c.edge(14, "DAYS are 0 .. 3999.");
        r.school(1, "a=1/50").due(0, "send", 0, 0, 0).goes(1, 0, 3999, "answer", 0, 0).due(4002, "answer", 0, 3999);
        r = c.edge(15, "DAYS are 0 .. 3999.");
        r.school(1, "a=1/50").tutors(1, 9).goes(2, 0, 3999, "give", r.answered(0, 0, 0), 0, 0)
            .due(1, "give", 0, 0, 3999);
        r = c.edge(16, "DAYS are 0 .. 3999.");
        r.school(1, "a=1/50").tutors(1, 9).goes(4, 0, 3999, "mark", r.given(0, 0, 0, 0), 1, 1, 1, 0);
        r.due(1, "mark", 0, 1, 1, 1, 3999).asked(4002, "marks", 0, 3);
        r = c.edge(17, "DAYS are 0 .. 3999.");
        r.school(1, "a=1/50").tutors(1, 9).goes(1, 0, 3999, "again", r.given(0, 0, 0, 0), 0)
            .due(4002, "again", 0, 3999);
    }

    private static void daysOfShares() {
        Run r = c.edge(27, "DAYS are 0 .. 3999.");
        r.school(1, "a=1/50").tutors(1, 9).answered(0, 0, 0);
        r.goes(0, 0, 3999, "share", 0, 0).goes(0, 0, 3999, "share", 0, 1).asked(1, "share", 3999, 0)
            .asked(0, "share", 0, 0);
        r = c.edge(28, "DAYS are 0 .. 3999.");
        r.school(1, "a=1/50").tutors(1, 9).answered(0, 0, 0);
        r.goes(0, 0, 3999, "shareOf", 0, 0).asked(0, "shareOf", 3999, 0).asked(Edge.NONE, "shareOf", 0, 0);
    }

    private static void daysOfPupils() {
        Run r = c.edge(36, "DAYS are 0 .. 3999.");
        r.school(1, "a=1/50").goes(2, 0, 3999, "pay", 0, 1, 0);
        r = c.edge(37, "DAYS are 0 .. 3999.");
        r.school(1, "a=1/50").goes(1, 0, 3999, "due", 0, 0);
        r = c.edge(38, "DAYS are 0 .. 3999.");
        r.school(1, "a=1/50").goes(1, 0, 3999, "leave", 0, 0).due(0, "leave", 0, 3999).asked(3999, "who", 0, 5);
    }
}
