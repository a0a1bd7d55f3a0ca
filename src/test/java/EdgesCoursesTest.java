/** The boundary cases of editions, pupils and what they may have (promises 4 to 11). */
public final class EdgesCoursesTest {
    private static final Edge c = new Edge();

    public static void main(String[] args) {
        told();
        toldHowMany();
        lesson();
        lessonNoneSuch();
        lessonLeans();
        pupilPlaces();
        pupilBad();
        pupilInForce();
        pupilLatest();
        pupilFull();
        pupilOrder();
        who();
        whoLeft();
        habit();
        bestBad();
        bestNone();
        bestAsOf();
        bestMost();
        mayBad();
        mayNoneMarked();
        mayNoLess();
        mayAbove();
        mayByCases();
        mayNotPassed();
        leanBad();
        leanCounts();
        leanNone();
        leanPassed();
        leanHundred();
        c.end();
    }

    // ---- promises 4, 5

    private static Run editions(Run r) {
        for (int course = 0; course < 4; course++) {
            for (int i = 0; i < 6; i++) {
                r.edition(i, course, i, "h=" + (course + i) + "/50:h");
            }
        }
        return r;
    }

    private static void told() {
        Run r = editions(c.edge(4, "Of an EDITION: 0 from when, 1 how many LESSONS, 2 LESSONS as bits. BAD."));
        r.goes(0, 0, 3, "told", 0, 0, 0).goes(1, 0, 5, "told", 0, 0, 0).goes(2, 0, 2, "told", 0, 0, 0);
        r = c.edge(4, "(a number is not as told, or names nothing)");
        r.asked(Edge.BAD, "told", 0, 0, 0).edition(0, 0, 0, "a=1/5").asked(0, "told", 0, 0, 0);
        r.asked(Edge.BAD, "told", 0, 1, 0).asked(Edge.BAD, "told", 0, -1, 0).asked(Edge.BAD, "told", 1, 0, 0);
        r.edition(1, 0, 3999, "a=1/5").asked(3999, "told", 0, 1, 0).asked(Edge.BAD, "told", 0, 2, 0);
    }

    private static void toldHowMany() {
        Run r = c.edge(4, "1 how many LESSONS, 2 LESSONS as bits");
        r.edition(0, 0, 0, "a=1/5").asked(1, "told", 0, 0, 1).asked(1, "told", 0, 0, 2);
        r.edition(1, 0, 0, "h=1/5").asked(1, "told", 0, 1, 1).asked(128, "told", 0, 1, 2);
        r.edition(2, 0, 0, "a=1/5;b=1/5;c=1/5;d=1/5;e=1/5;f=1/5;g=1/5;h=1/5");
        r.asked(8, "told", 0, 2, 1).asked(255, "told", 0, 2, 2);
    }

    private static void lesson() {
        Run r = editions(c.edge(5, "Of a LESSON (0 .. 7: a .. h) of an EDITION"));
        r.goes(0, 0, 3, "lesson", 0, 0, 7, 0).goes(1, 0, 5, "lesson", 0, 0, 7, 0).goes(3, 0, 2, "lesson", 0, 0, 7, 0);
        r = c.edge(5, "Of a LESSON (0 .. 7: a .. h) of an EDITION");
        r.edition(0, 0, 0, "a=1/11;b=2/12;c=3/13;d=4/14;e=5/15;f=6/16;g=7/17;h=8/18")
            .goes(2, 0, 7, "lesson", 0, 0, 0, 0);
        for (int i = 0; i < 8; i++) {
            r.asked(i + 1, "lesson", 0, 0, i, 0).asked(i + 11, "lesson", 0, 0, i, 1).asked(0, "lesson", 0, 0, i, 2);
        }
    }

    private static void lessonNoneSuch() {
        Run r = c.edge(5, "BAD: also it has none such");
        r.edition(0, 0, 0, "d=1/5").edition(1, 0, 0, "a=1/5;h=2/6");
        for (int i = 0; i < 8; i++) {
            r.asked(i == 3 ? 1 : Edge.BAD, "lesson", 0, 0, i, 0);
            r.asked(i == 0 ? 1 : i == 7 ? 2 : Edge.BAD, "lesson", 0, 1, i, 0);
        }
        r.asked(Edge.BAD, "lesson", 0, 0, 35, 0).asked(Edge.BAD, "lesson", 0, 2, 0, 0)
            .asked(Edge.BAD, "lesson", 1, 0, 3, 0);
    }

    private static void lessonLeans() {
        Run r = c.edge(5, "2 LESSONS that stand in what it LEANS on (bits)");
        r.edition(0, 0, 0, "a=1/1;b=1/1:b;c=1/1:a>100;d=1/1:!(a|(!b>1&c));e=1/1;f=1/1;g=1/1;h=1/1:a&b&c&d&e&f&g&h&h&h>1");
        int[] want = {0, 2, 1, 7, 0, 0, 0, 255};
        for (int i = 0; i < 8; i++) {
            r.asked(want[i], "lesson", 0, 0, i, 2);
        }
    }

    // ---- promises 6, 7, 8

    private static void pupilPlaces() {
        Run r = c.edge(6, "PUPILS 0 .. 11, as they come, are at a PLACE 0 .. 5");
        for (int course = 0; course < 4; course++) {
            r.edition(0, course, 0, "a=1/50");
        }
        r.goes(0, 0, 5, "pupil", 0, 0, 0).goes(1, 0, 3, "pupil", 0, 0, 0);
        for (int i = 0; i < 12; i++) {
            r.due(i, "pupil", i / 2, i % 4, 10 * i);
        }
        for (int i = 0; i < 12; i++) {
            r.asked(i / 2, "who", i, 0).asked(i % 4, "who", i, 1).asked(10 * i, "who", i, 3);
        }
    }

    private static void pupilBad() {
        Run r = c.edge(6, "A PUPIL: the number. BAD");
        r.edition(0, 0, 0, "a=1/50").goes(0, 0, 5, "pupil", 0, 0, 0).goes(2, 0, 3999, "pupil", 5, 0, 0);
        r.refused(Edge.BAD, "pupil", 0, 4, 0).refused(Edge.BAD, "pupil", 0, -1, 0).due(0, "pupil", 0, 0, 0)
            .due(1, "pupil", 5, 0, 3999);
        r.asked(2, "count", 0);
    }

    private static void pupilInForce() {
        Run r = c.edge(6, "NOT: no EDITION is in force then");
        r.refused(Edge.NOT, "pupil", 0, 0, 0).refused(Edge.NOT, "pupil", 0, 0, 3999);
        r.edition(0, 0, 50, "a=1/50").refused(Edge.NOT, "pupil", 0, 0, 49).refused(Edge.NOT, "pupil", 0, 0, 0);
        r.refused(Edge.NOT, "pupil", 0, 1, 3999).due(0, "pupil", 0, 0, 50);
        r.edition(0, 1, 3999, "a=1/50").refused(Edge.NOT, "pupil", 0, 1, 3998).due(1, "pupil", 0, 1, 3999);
    }

    private static void pupilLatest() {
        Run r = c.edge(6, "begin a COURSE on a DAY, by the EDITION that is in force then (the latest)");
        r.edition(0, 0, 10, "a=1/50").edition(1, 0, 20, "b=1/50").edition(2, 0, 20, "c=1/50")
            .edition(3, 0, 30, "d=1/50");
        int[][] days = {{10, 0}, {19, 0}, {20, 2}, {29, 2}, {30, 3}, {3999, 3}};
        for (int i = 0; i < days.length; i++) {
            r.due(i, "pupil", 0, 0, days[i][0]).asked(days[i][1], "who", i, 2).asked(1 << days[i][1], "may", i, 0);
        }
        r.edition(4, 0, 30, "e=1/50").edition(5, 0, 3999, "f=1/50");
        for (int i = 0; i < days.length; i++) {
            r.asked(days[i][1], "who", i, 2);
        }
        r.due(6, "pupil", 0, 0, 3998).asked(4, "who", 6, 2).due(7, "pupil", 0, 0, 3999).asked(5, "who", 7, 2);
    }

    private static void pupilFull() {
        Run r = c.edge(6, "FULL: 12");
        r.school(11, "a=1/50").due(11, "pupil", 5, 0, 9).refused(Edge.FULL, "pupil", 5, 0, 9).asked(12, "count", 0);
        r.asked(9, "who", 11, 3).asked(Edge.BAD, "who", 12, 3);
    }

    private static void pupilOrder() {
        Run r = c.edge(6, "Refusals are answers, of several the first that a call names");
        r.edition(0, 0, 50, "a=1/50");
        r.refused(Edge.BAD, "pupil", 6, 0, 49).refused(Edge.BAD, "pupil", 0, 4, 49)
            .refused(Edge.BAD, "pupil", 0, 0, -1);
        for (int i = 0; i < 12; i++) {
            r.due(i, "pupil", 0, 0, 50);
        }
        r.refused(Edge.NOT, "pupil", 0, 0, 49).refused(Edge.NOT, "pupil", 0, 1, 50)
            .refused(Edge.FULL, "pupil", 0, 0, 50);
        r.refused(Edge.BAD, "pupil", -1, 0, 50).refused(Edge.BAD, "pupil", 0, -1, 50)
            .refused(Edge.BAD, "pupil", 0, 0, 4000);
    }

    private static void who() {
        Run r = c.edge(7, "Of a PUPIL: 0 PLACE, 1 COURSE, 2 EDITION, 3 the DAY of beginning, 4 HABIT");
        r.asked(Edge.BAD, "who", 0, 0).school(12, "a=1/50");
        r.goes(0, 0, 11, "who", 0, 0).goes(1, 0, 6, "who", 0, 0).goes(1, 0, 6, "who", 11, 0);
        r = c.edge(7, "(a number is not as told, or names nothing)");
        r.school(1, "a=1/50").goes(0, 0, 0, "who", 0, 6).asked(Edge.BAD, "who", 1, 0);
    }

    private static void whoLeft() {
        Run r = c.edge(7, "5 the DAY since when LEFT (NONE), 6 pence paid. BAD.");
        r.school(2, "a=1/50").fees(1, 0, "b999=100").asked(Edge.NONE, "who", 0, 5).asked(0, "who", 0, 6);
        r.due(1, "pay", 0, 1, 0).asked(1, "who", 0, 6).due(100000, "pay", 0, 99999, 3999).asked(100000, "who", 0, 6);
        r.due(1, "leave", 0, 0).asked(0, "who", 0, 5).asked(100000, "who", 0, 6);
        r.due(0, "leave", 1, 3999).asked(3999, "who", 1, 5).asked(0, "who", 1, 6);
    }

    private static void habit() {
        Run r = c.edge(8, "the pupil's HABIT (0 .. 60 DAYS, 5 at first)");
        r.school(2, "a=1/50").tutors(1, 9).goes(1, 0, 60, "habit", 1, 0).asked(5, "who", 1, 4);
        r.due(5, "habit", 1, 60).due(60, "habit", 1, 0).due(0, "habit", 1, 60).asked(60, "who", 1, 4)
            .asked(5, "who", 0, 4);
        r = c.edge(8, "HABIT: what it was. BAD.");
        r.refused(Edge.BAD, "habit", 0, 5).school(12, "a=1/50").goes(0, 0, 11, "habit", 0, 9);
        r.refused(Edge.BAD, "habit", 0, 61).refused(Edge.BAD, "habit", 0, -1).asked(5, "who", 0, 4);
    }

    // ---- promise 9

    private static void bestBad() {
        Run r = c.edge(9, "BEST of a LESSON, AS OF a DAY (3999: all). BAD");
        r.school(12, "a=1/1;b=1/1;c=1/1;d=1/1;e=1/1;f=1/1;g=1/1;h=1/1");
        r.goes(0, 0, 11, "best", 0, 0, 3999).goes(1, 0, 7, "best", 0, 0, 3999).goes(2, 0, 3999, "best", 0, 0, 0);
        r = c.edge(9, "(a number is not as told, or names nothing)");
        r.asked(Edge.BAD, "best", 0, 0, 0).school(1, "b=1/50;g=2/50");
        for (int i = 0; i < 8; i++) {
            r.asked(i == 1 || i == 6 ? Edge.NONE : Edge.BAD, "best", 0, i, 3999);
        }
    }

    private static void bestNone() {
        Run r = c.edge(9, "NONE: none is MARKED");
        r.school(2, "a=1/0;b=2/0").tutors(1, 9).asked(Edge.NONE, "best", 0, 0, 3999);
        int thing = r.does("send", 0, 0, 0);
        r.asked(Edge.NONE, "best", 0, 0, 3999).due(6, "answer", thing, 3).asked(Edge.NONE, "best", 0, 0, 3999);
        r.due(1, "give", thing, 0, 6).asked(Edge.NONE, "best", 0, 0, 3999);
        r.due(9, "again", thing, 6).asked(Edge.NONE, "best", 0, 0, 3999);
        r.due(12, "answer", thing, 9).due(1, "give", thing, 0, 12).due(0, "mark", thing, 0, 0, 0, 12);
        r.asked(0, "best", 0, 0, 3999).asked(Edge.NONE, "best", 0, 1, 3999).asked(Edge.NONE, "best", 1, 0, 3999);
    }

    private static void bestAsOf() {
        Run r = c.edge(9, "AS OF a DAY count things MARKED on that DAY or ahead");
        r.school(1, "a=1/100").tutors(1, 9);
        r.due(30, "mark", r.given(0, 0, 0, 0), 30, 30, 30, 10).due(40, "mark", r.given(0, 0, 0, 0), 40, 40, 40, 20);
        r.due(99, "mark", r.given(0, 0, 0, 0), 99, 99, 99, 3999);
        int[][] days = {{0, Edge.NONE}, {9, Edge.NONE}, {10, 30}, {11, 30}, {19, 30}, {20, 40}, {3998, 40}, {3999, 99}};
        for (int[] d : days) {
            r.asked(d[1], "best", 0, 0, d[0]);
        }
    }

    private static void bestMost() {
        Run r = c.edge(9, "the most marks of all MARKED things of a pupil with that NAME (none: -1)");
        r.school(2, "a=1/100;b=1/100;c=2/100").tutors(2, 9);
        r.marked(0, 0, 0, 0, 60);
        r.marked(0, 1, 0, 0, 70);
        r.marked(0, 0, 0, 0, 65);
        r.marked(0, 2, 0, 0, 99);
        r.marked(1, 0, 0, 0, 98);
        r.asked(70, "best", 0, 0, 3999).asked(70, "best", 0, 1, 3999).asked(99, "best", 0, 2, 3999)
            .asked(98, "best", 1, 1, 3999);
        r.due(97, "second", 0, 1, 97, 97, 97).asked(70, "best", 0, 0, 3999);
        r.marked(0, 0, 0, 0, 100);
        r.asked(100, "best", 0, 1, 3999);
    }

    // ---- promise 10

    private static void mayBad() {
        Run r = c.edge(10, "LESSONS that MAY be had (0), that are PASSED (1), that lack (2), as bits. BAD.");
        r.asked(Edge.BAD, "may", 0, 0).school(12, "a=1/50;h=2/50:a").tutors(1, 9);
        r.goes(0, 0, 11, "may", 0, 0).goes(1, 0, 2, "may", 11, 0);
        r.asked(1, "may", 0, 0).asked(0, "may", 0, 1).asked(129, "may", 0, 2);
        r.marked(0, 0, 0, 0, 50);
        r.asked(128, "may", 0, 0).asked(1, "may", 0, 1).asked(128, "may", 0, 2);
        r.marked(0, 7, 0, 0, 50);
        r.asked(0, "may", 0, 0).asked(129, "may", 0, 1).asked(0, "may", 0, 2);
    }

    private static void mayNoneMarked() {
        Run r = c.edge(10, "(none: -1). A LESSON is PASSED, if BEST is no less than told.");
        r.school(1, "a=1/0;b=2/0:a;c=3/0:a>0;d=4/0:!a>0").tutors(1, 9);
        r.asked(9, "may", 0, 0).asked(0, "may", 0, 1).asked(15, "may", 0, 2);
        r.marked(0, 0, 0, 0, 0);
        r.asked(10, "may", 0, 0).asked(1, "may", 0, 1).asked(14, "may", 0, 2);
    }

    private static void mayNoLess() {
        Run r = c.edge(10, "A LESSON is PASSED, if BEST is no less than told.");
        r.school(2, "a=1/50;b=2/100;c=3/50:b").tutors(1, 9);
        r.marked(0, 0, 0, 0, 49);
        r.marked(1, 0, 0, 0, 51);
        r.asked(0, "may", 0, 1).asked(3, "may", 0, 0).asked(1, "may", 1, 1).asked(2, "may", 1, 0);
        r.marked(0, 0, 0, 0, 50);
        r.marked(0, 1, 0, 0, 99);
        r.asked(1, "may", 0, 1).asked(2, "may", 0, 0).asked(6, "may", 0, 2);
        r.marked(0, 1, 0, 0, 100);
        r.asked(3, "may", 0, 1).asked(4, "may", 0, 0).asked(4, "may", 0, 2);
    }

    private static void mayAbove() {
        Run r = c.edge(10, "a LESSON > a number (0 .. 100; its best marks are above that)");
        r.school(1, "a=1/100;b=2/9:a>0;c=3/9:a>60;d=4/9:a>61;e=5/9:a>99;f=6/9:a>100;g=7/9:!a>60").tutors(1, 9);
        r.asked(65, "may", 0, 0);
        r.marked(0, 0, 0, 0, 0);
        r.asked(65, "may", 0, 0);
        r.marked(0, 0, 0, 0, 1);
        r.asked(67, "may", 0, 0);
        r.marked(0, 0, 0, 0, 60);
        r.asked(67, "may", 0, 0);
        r.marked(0, 0, 0, 0, 61);
        r.asked(7, "may", 0, 0);
        r.marked(0, 0, 0, 0, 62);
        r.asked(15, "may", 0, 0);
        r.marked(0, 0, 0, 0, 99);
        r.asked(15, "may", 0, 0);
        r.marked(0, 0, 0, 0, 100);
        r.asked(30, "may", 0, 0);
    }

    /** Pupil p of eight has passed a, b and c as the bits of p tell. */
    private static Run eight(Run r, String text) {
        r.school(8, text).tutors(1, 9);
        for (int pupil = 0; pupil < 8; pupil++) {
            for (int lesson = 0; lesson < 3; lesson++) {
                if ((pupil >> lesson & 1) == 1) {
                    r.marked(pupil, lesson, 0, 0, 50);
                }
            }
        }
        return r;
    }

    private static int bits(boolean... held) {
        int bits = 0;
        for (int i = 0; i < held.length; i++) {
            bits |= held[i] ? 1 << i : 0;
        }
        return bits;
    }

    private static void mayByCases() {
        Run r = eight(c.edge(10, "CASES with | between; CASE: CLAIMS with & between; CLAIM: perhaps !, then a LESSON (it is PASSED)"),
            "a=1/50;b=2/50;c=3/50;d=4/50:a&b|c;e=5/50:a|b&c;f=6/50:(a|b)&c;g=7/50:!(a&b)|!c;h=8/50:((((((a|b))))))&!c");
        Run s = eight(c.edge(10, "or CASES in ( ) (6 open at once at most)"),
            "a=1/50;b=2/50;c=3/50;d=4/50:a|b|c;e=5/50:a&b&c;f=6/50:!a&b|!b&c;g=7/50:a&(b|c&(a|b));h=8/50:!(!(!(!(!(!(a&b))))))&c|b");
        for (int pupil = 0; pupil < 8; pupil++) {
            boolean a = (pupil & 1) > 0;
            boolean b = (pupil & 2) > 0;
            boolean d = (pupil & 4) > 0;
            r.asked(bits(!a, !b, !d, a && b || d, a || b && d, (a || b) && d, !(a && b) || !d, (a || b) && !d), "may", pupil, 0);
            s.asked(bits(!a, !b, !d, a || b || d, a && b && d, !a && b || !b && d, a && (b || d), b), "may", pupil, 0);
        }
    }

    private static void mayNotPassed() {
        Run r = c.edge(10, "MAY be had is a LESSON that is not PASSED, if what it LEANS on holds.");
        r.school(1, "a=1/50;b=2/50:b;c=3/50:!c;d=1/90").tutors(1, 9).asked(13, "may", 0, 0);
        r.marked(0, 2, 0, 0, 49);
        r.asked(13, "may", 0, 0);
        r.marked(0, 2, 0, 0, 50);
        r.asked(9, "may", 0, 0).asked(4, "may", 0, 1).asked(11, "may", 0, 2);
        r.marked(0, 0, 0, 0, 89);
        r.asked(8, "may", 0, 0).asked(5, "may", 0, 1);
        r.marked(0, 3, 0, 0, 90);
        r.asked(0, "may", 0, 0).asked(13, "may", 0, 1).asked(2, "may", 0, 2);
    }

    // ---- promise 11

    private static void leanBad() {
        Run r = c.edge(11, "it takes at least till a LESSON is PASSED (itself counted). BAD");
        r.asked(Edge.BAD, "lean", 0, 0).school(12, "a=1/1;b=1/1;c=1/1;d=1/1;e=1/1;f=1/1;g=1/1;h=1/1");
        r.goes(0, 0, 11, "lean", 0, 0).goes(1, 0, 7, "lean", 0, 0);
        r = c.edge(11, "(a number is not as told, or names nothing)");
        r.school(1, "b=1/50;g=2/50");
        for (int i = 0; i < 8; i++) {
            r.asked(i == 1 || i == 6 ? 1 : Edge.BAD, "lean", 0, i);
        }
    }

    private static void leanCounts() {
        Run r = c.edge(11, "How many LESSONS that MAY be had, one behind the other");
        r.school(1, "a=1/1;b=2/1:a;c=3/1:b;d=4/1:c;e=5/1:d;f=6/1:e;g=7/1:f;h=8/1:g").tutors(1, 9);
        for (int i = 0; i < 8; i++) {
            r.asked(i + 1, "lean", 0, i);
        }
        r.marked(0, 0, 0, 0, 1);
        for (int i = 0; i < 8; i++) {
            r.asked(i, "lean", 0, i);
        }
        r = c.edge(11, "How many LESSONS that MAY be had, one behind the other");
        r.school(1, "a=1/1;b=2/1;c=3/1;d=4/1;e=5/1;f=6/1;g=7/1;h=8/1:a&b&c&d&e&f&g").asked(8, "lean", 0, 7)
            .asked(1, "lean", 0, 6);
        r = c.edge(11, "it takes at least till a LESSON is PASSED (itself counted)");
        r.school(1, "a=1/1;b=2/1:a;c=3/1:b;d=4/1:c|e;e=5/1:a;f=6/1:(a&b&c&d&e)|(g&e);g=7/1:e");
        int[] want = {1, 2, 3, 3, 2, 4, 3};
        for (int i = 0; i < want.length; i++) {
            r.asked(want[i], "lean", 0, i);
        }
    }

    private static void leanNone() {
        Run r = c.edge(11, "NONE: it can't be.");
        r.school(1, "a=1/50:a;b=2/50:c;c=3/50:b;d=4/50:e>100;e=5/50;f=6/50:!e&e;g=7/50:h&!h;h=8/50").tutors(1, 9);
        int[] want = {Edge.NONE, Edge.NONE, Edge.NONE, Edge.NONE, 1, Edge.NONE, Edge.NONE, 1};
        for (int i = 0; i < 8; i++) {
            r.asked(want[i], "lean", 0, i);
        }
        r = c.edge(11, "NONE: it can't be.");
        r.school(1, "a=1/50;b=2/50:!a").tutors(1, 9).asked(1, "lean", 0, 1);
        r.marked(0, 0, 0, 0, 50);
        r.asked(Edge.NONE, "lean", 0, 1);
        r = c.edge(11, "NONE: it can't be.");
        r.school(1, "a=1/50;b=2/50:a>60").tutors(1, 9).asked(2, "lean", 0, 1);
        r.marked(0, 0, 0, 0, 60);
        r.asked(Edge.NONE, "lean", 0, 1);
    }

    private static void leanPassed() {
        Run r = c.edge(11, "(0: it is PASSED.)");
        r.school(1, "a=1/0;b=1/50;c=2/50:c").tutors(1, 9).asked(1, "lean", 0, 0);
        r.marked(0, 0, 0, 0, 0);
        r.asked(0, "lean", 0, 0).asked(1, "lean", 0, 1).asked(Edge.NONE, "lean", 0, 2);
        r.marked(0, 1, 0, 0, 49);
        r.asked(1, "lean", 0, 1);
        r.marked(0, 1, 0, 0, 50);
        r.asked(0, "lean", 0, 1);
    }

    private static void leanHundred() {
        Run r = c.edge(11, "each with 100 marks for its NAME");
        r.school(1, "a=1/100;b=2/50:a>99;c=3/50:a>100;d=1/100:d;e=4/50:d;f=1/0:!a;g=5/50:!a>99;h=6/50:g&a")
            .tutors(1, 9);
        int[] want = {1, 2, Edge.NONE, 1, 2, 1, 1, 3};
        for (int i = 0; i < 8; i++) {
            r.asked(want[i], "lean", 0, i);
        }
        r.marked(0, 0, 0, 0, 99);
        int[] then = {1, 2, Edge.NONE, 1, 2, 0, 1, 3};
        for (int i = 0; i < 8; i++) {
            r.asked(then[i], "lean", 0, i);
        }
    }
}
