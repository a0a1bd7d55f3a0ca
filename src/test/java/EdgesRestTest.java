/** What the document says beside its boundaries: the sentences that no other test names, each with all that it tells. */
public final class EdgesRestTest {
    private static final Edge c = new Edge();

    public static void main(String[] args) {
        refusalsByNumber();
        claimsOfEachLetter();
        lessonNameAndPass();
        bestByName();
        sentIsAThingMore();
        answeredInItsPlace();
        giveNots();
        againTwiceAlready();
        thingNumbers();
        scale();
        offsetNumbers();
        c.end();
    }

    private static void refusalsByNumber() {
        Run r = c.edge(43, "BAD -1 (a number is not as told, or names nothing), NOT -2 (as told), FULL -3, NONE -4 (as told), CAST -12 (a thing of another KIND; of SHEETS a LANE); what the machine finds: NULL -11, INDEX -13, SIZE -14");
        r.school(1, "a=1/50;b=2/50:a").refused(-1, "send", 1, 0, 0).refused(-1, "send", 0, 0, 4000)
            .refused(-2, "send", 0, 1, 0);
        r.asked(-4, "best", 0, 0, 3999).due(0, "send", 0, 0, 0).refused(-12, "choose", 0, 0, 0).due(6, "answer", 0, 3);
        r.refused(-11, "choices", 0, 0, 0, 0, 1).refused(-14, "sheet", 0, 0, -1).due(2, "sheet", 0, 0, 2);
        r.refused(-12, "choices", 0, 0, 1, 0, 1).refused(-13, "choices", 0, 0, 0, 2, 1);
        for (int i = 0; i < 6; i++) {
            r.due(i, "tutor", 15, 1);
        }
        r.refused(-3, "tutor", 15, 1);
    }

    /** Lesson i leans on lesson k alone, once by its pass of 60 and once by marks above 40. */
    private static void claimsOfEachLetter() {
        for (int k = 0; k < 8; k++) {
            int i = (k + 1) % 8;
            char leaning = (char) ('a' + i);
            char on = (char) ('a' + k);
            for (int marks : new int[] {0, 40, 41, 59, 60, 100}) {
                Run r = c.edge(10, "a LESSON (it is PASSED), a LESSON > a number (0 .. 100; its best marks are above that)");
                r.edition(0, 0, 0, on + "=" + k + "/60;" + leaning + "=" + (k + 10) + "/100:" + on);
                r.edition(0, 1, 0, on + "=" + k + "/60;" + leaning + "=" + (k + 10) + "/100:" + on + ">40");
                r.due(0, "pupil", 0, 0, 0).tutors(1, 9).asked(1 << k, "may", 0, 0).marked(0, k, 0, 0, marks);
                int open = marks < 60 ? 1 << k : 0;
                r.asked(open | (marks >= 60 ? 1 << i : 0), "may", 0, 0).due(marks >= 60 ? 1 : 0, "move", 0, 1, 0);
                r.asked(open | (marks > 40 ? 1 << i : 0), "may", 0, 0);
            }
        }
    }

    private static void lessonNameAndPass() {
        Run r = c.edge(5, "0 its NAME, 1 the marks with which it is PASSED, 2 LESSONS that stand in what it LEANS on (bits)");
        r.edition(0, 3, 0, "a=7/10;c=17/20:a;h=39/100:a>5&!(c|a)");
        int[][] lessons = {{0, 7, 10, 0}, {2, 17, 20, 1}, {7, 39, 100, 5}};
        for (int[] l : lessons) {
            r.asked(l[1], "lesson", 3, 0, l[0], 0).asked(l[2], "lesson", 3, 0, l[0], 1).asked(l[3], "lesson", 3, 0, l[0], 2);
        }
    }

    private static void bestByName() {
        Run r = c.edge(9, "BEST of a LESSON by its NAME: the most marks of all MARKED things of a pupil with that NAME (none: -1).");
        r.school(2, "a=1/90;b=1/90;c=2/90").tutors(1, 9).marked(0, 0, 0, 0, 30);
        r.asked(30, "best", 0, 0, 3999).asked(30, "best", 0, 1, 3999).asked(Edge.NONE, "best", 0, 2, 3999)
            .asked(Edge.NONE, "best", 1, 0, 3999);
        r.marked(0, 1, 0, 0, 50);
        r.marked(0, 0, 0, 0, 20);
        r.asked(50, "best", 0, 0, 3999).asked(50, "best", 0, 1, 3999).asked(Edge.NONE, "best", 0, 2, 3999);
    }

    private static void sentIsAThingMore() {
        Run r = c.edge(13, "SENT is a LESSON to a pupil (as MAY be had by what is MARKED): a THING more; it comes POST DAYS later, or is LOST");
        r.school(1, "a=1/50").due(1, "post", 0, 4, 2).asked(0, "count", 2);
        r.due(0, "send", 0, 0, 5).asked(1, "count", 2).asked(0, "thing", 0, 0).asked(9, "thing", 0, 5);
        r.due(1, "send", 0, 0, 5).asked(2, "count", 2).asked(4, "thing", 1, 0).asked(Edge.NONE, "thing", 1, 5);
        r.asked(0, "thing", 0, 0).asked(9, "thing", 0, 5);
    }

    private static void answeredInItsPlace() {
        Run r = c.edge(14, "it is an ANSWER in its place, sent then, that comes to the house POST DAYS later, or is LOST.");
        r.school(1, "a=1/50;b=12/50").due(0, "send", 0, 0, 0).due(1, "send", 0, 1, 1).due(1, "post", 0, 8, 2);
        r.due(18, "answer", 1, 10).asked(2, "count", 2).asked(0, "thing", 0, 0);
        int[] answer = {1, 0, 12, 1, 10, 18, Edge.NONE, 0};
        for (int what = 0; what < 8; what++) {
            r.asked(answer[what], "thing", 1, what);
        }
        r.due(Edge.NONE, "answer", 0, 11).asked(2, "count", 2);
        int[] lost = {4, 0, 1, 0, 11, Edge.NONE, Edge.NONE, 0};
        for (int what = 0; what < 8; what++) {
            r.asked(lost[what], "thing", 0, what);
        }
    }

    private static void giveNots() {
        Run r = c.edge(15, "NOT: it is MARKED, AGAIN, is GIVEN, has not come by then, the pupil is KIN, another NAME; FULL: 12.");
        r.school(2, "a=1/50;b=12/50").due(0, "tutor", 1, 9).due(0, "kin", 0, 2);
        int own = r.answered(0, 0, 0);
        int kin = r.answered(1, 0, 0);
        int other = r.answered(0, 1, 0);
        r.refused(Edge.NOT, "give", own, 0, 5).refused(Edge.NOT, "give", kin, 0, 6).refused(Edge.NOT, "give", other, 0, 6);
        r.due(1, "give", own, 0, 6).refused(Edge.NOT, "give", own, 0, 6).due(2, "kin", 0, 0).due(2, "give", kin, 0, 6);
        r.due(9, "again", kin, 6).refused(Edge.NOT, "give", kin, 0, 99).due(9, "mark", own, 9, 9, 9, 6)
            .refused(Edge.NOT, "give", own, 0, 99);
    }

    private static void againTwiceAlready() {
        Run r = c.edge(17, "NOT: it is MARKED, AGAIN, not GIVEN, or GIVEN later, or it was AGAIN twice already.");
        r.school(1, "a=1/50").tutors(2, 9).again(0, 0, 0, 0);
        r.due(12, "answer", 0, 9).due(1, "give", 0, 1, 12).refused(Edge.NOT, "again", 0, 11).due(15, "again", 0, 12);
        r.due(18, "answer", 0, 15).due(1, "give", 0, 0, 18).refused(Edge.NOT, "again", 0, 18)
            .refused(Edge.NOT, "again", 0, 3999);
        r.due(5, "mark", 0, 5, 5, 5, 18).again(0, 0, 0, 0);
        r.asked(1, "thing", 1, 7).asked(2, "thing", 0, 7);
    }

    private static void thingNumbers() {
        Run r = c.edge(19, "Each is of a pupil, with a NAME, its letter, and a DAY on which it was sent, one on which it comes.");
        r.school(3, "a=1/50;g=25/50").due(1, "post", 2, 7, 0).due(0, "send", 2, 6, 11).due(1, "send", 1, 0, 12);
        int[][] sent = {{0, 2, 25, 6, 11, 18}, {0, 1, 1, 0, 12, 15}};
        for (int thing = 0; thing < 2; thing++) {
            for (int what = 0; what < 6; what++) {
                r.asked(sent[thing][what], "thing", thing, what);
            }
        }
        r = c.edge(19, "Of a THING: 0 KIND, 1 PUPIL, 2 NAME, 3 LESSON, 4 the DAY it was sent the latest, 5 the DAY it comes");
        r.school(3, "a=1/50;g=25/50").tutors(1, 9).due(0, "send", 2, 6, 11).due(18, "answer", 0, 15);
        r.asked(1, "thing", 0, 0).asked(15, "thing", 0, 4).asked(18, "thing", 0, 5).due(1, "give", 0, 0, 19);
        r.asked(1, "thing", 0, 0).asked(15, "thing", 0, 4).asked(18, "thing", 0, 5).due(23, "again", 0, 20);
        r.asked(3, "thing", 0, 0).asked(20, "thing", 0, 4).asked(23, "thing", 0, 5).due(27, "answer", 0, 24);
        r.due(1, "give", 0, 0, 30).due(70, "mark", 0, 70, 70, 70, 31);
        r.asked(2, "thing", 0, 0).asked(24, "thing", 0, 4).asked(27, "thing", 0, 5).asked(2, "thing", 0, 1)
            .asked(25, "thing", 0, 2).asked(6, "thing", 0, 3);
    }

    private static void scale() {
        Run r = c.edge(18, "SCALE: a thing MARKED once can be MARKED by a second TUTOR, too.");
        r.school(1, "a=1/50").due(0, "tutor", 1, 1).due(1, "tutor", 8, 1).due(0, "kin", 1, 1).marked(0, 0, 0, 0, 70);
        r.due(31, "second", 0, 1, 40, 30, 16).asked(31, "marks", 0, 2).asked(70, "marks", 0, 0).asked(6, "marks", 0, 1)
            .asked(9, "marks", 0, 3);
        r.asked(0, "thing", 0, 6).asked(2, "thing", 0, 0).asked(0, "load", 1).asked(70, "best", 0, 0, 3999);
    }

    private static void offsetNumbers() {
        Run r = c.edge(29, "OFFSET of two TUTORS: 0 by how many, 1 the mean, 2 the least, 3 the greatest.");
        r.school(1, "a=1/100").tutors(3, 9);
        r.due(20, "second", r.marked(0, 0, 0, 0, 50), 1, 20, 20, 20).due(60, "second", r.marked(0, 0, 0, 1, 50), 0, 60, 60, 60)
            .due(90, "second", r.marked(0, 0, 0, 0, 50), 2, 90, 90, 90);
        int[][] offsets = {{0, 1, 2, 20, 10, 30}, {1, 0, 2, -20, -30, -10}, {0, 2, 1, -40, -40, -40}, {2, 0, 1, 40, 40, 40}};
        for (int[] o : offsets) {
            for (int what = 0; what < 4; what++) {
                r.asked(o[2 + what], "offset", o[0], o[1], what);
            }
        }
        r.asked(0, "offset", 1, 2, 0).asked(-1004, "offset", 1, 2, 1);
    }
}
