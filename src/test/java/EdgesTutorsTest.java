/** The boundary cases of tutors, waits, shares and offsets (promises 22 to 29). */
public final class EdgesTutorsTest {
    private static final Edge c = new Edge();

    public static void main(String[] args) {
        tutor();
        tutorFull();
        tutorsAsTheyCome();
        kin();
        load();
        waitBad();
        waitCutUp();
        waitPost();
        tookBad();
        tookCast();
        tookFirstSent();
        shareBad();
        shareNothing();
        shareComes();
        shareSix();
        shareNotGiven();
        shareTeaches();
        shareLoad();
        shareMost();
        shareLeast();
        shareLeastBetweenLoads();
        shareFirst();
        shareNotGivenLast();
        shareOf();
        offsetBad();
        offsetNone();
        offsetOrder();
        offsetOfEachPair();
        offsetLeastGreatest();
        c.end();
    }

    private static Run ready(Run r) {
        return r.school(2, "a=1/50;b=12/50;c=23/50").tutors(2, 1);
    }

    // ---- promises 22, 23, 24

    private static void tutor() {
        Run r = c.edge(22, "mark PACE (1 .. 9) a DAY");
        r.school(1, "a=1/50").goes(1, 1, 9, "tutor", 15, 1);
        r.due(0, "tutor", 15, 1).due(1, "tutor", 15, 9).asked(12, "wait", 0, 0).asked(12, "wait", 0, 1);
        r.given(0, 0, 0, 0);
        r.given(0, 0, 0, 1);
        r.asked(13, "wait", 0, 0).asked(12, "wait", 0, 1);
        r = c.edge(22, "teach NAMES by tens (bits 0 .. 3: NAMES 0 .. 9, 10 .. 19, ..)");
        r.school(1, "a=1/50").goes(0, 0, 15, "tutor", 1, 9);
    }

    private static void tutorFull() {
        Run r = c.edge(22, "A TUTOR: the number. BAD; FULL: 6.");
        for (int i = 0; i < 6; i++) {
            r.asked(i, "count", 1).due(i, "tutor", 15, i + 1);
        }
        r.refused(Edge.FULL, "tutor", 15, 9).refused(Edge.FULL, "tutor", 0, 1).asked(6, "count", 1);
        r.refused(Edge.BAD, "tutor", 16, 9).refused(Edge.BAD, "tutor", -1, 9).refused(Edge.BAD, "tutor", 15, 0)
            .refused(Edge.BAD, "tutor", 15, 10);
        r.goes(0, 0, 5, "load", 0);
    }

    private static void tutorsAsTheyCome() {
        Run r = c.edge(22, "TUTORS 0 .. 5, as they come");
        r.school(1, "a=0/50;b=39/50");
        for (int i = 0; i < 6; i++) {
            r.asked(Edge.BAD, "load", i).due(i, "tutor", i % 2 == 0 ? 1 : 8, i + 1).asked(0, "load", i);
        }
        for (int i = 0; i < 6; i++) {
            int thing = r.answered(0, i % 2, 0);
            r.refused(Edge.NOT, "give", thing, (i + 1) % 6, 6).due(1, "give", thing, i, 6).asked(i, "thing", thing, 6);
        }
        r.asked(Edge.BAD, "load", 6);
    }

    private static void kin() {
        Run r = c.edge(23, "KIN (bits of 12): what they were. BAD.");
        r.refused(Edge.BAD, "kin", 0, 0).school(12, "a=1/50").tutors(6, 9).goes(0, 0, 5, "kin", 0, 1)
            .goes(1, 0, 4095, "kin", 5, 0);
        r.due(0, "kin", 5, 4095).due(4095, "kin", 5, 0).due(0, "kin", 5, 2048).due(0, "kin", 0, 1)
            .due(2048, "kin", 5, 0);
        r = c.edge(23, "(a number is not as told, or names nothing)");
        r.tutors(1, 9).goes(0, 0, 0, "kin", 0, 7).due(0, "kin", 0, 4095);
    }

    private static void load() {
        Run r = c.edge(24, "LOAD. BAD.");
        r.asked(Edge.BAD, "load", 0).school(1, "a=1/50").tutors(1, 9).goes(0, 0, 0, "load", 0).asked(0, "load", 0);
        r.tutors(5, 9).goes(0, 0, 5, "load", 0);
        r = ready(c.edge(24, "have a LOAD of things GIVEN and not yet MARKED, nor AGAIN, 12 at most"));
        for (int i = 0; i < 12; i++) {
            r.asked(i, "load", 0).given(0, 0, 0, 0);
        }
        r.asked(12, "load", 0).asked(0, "load", 1).refused(Edge.FULL, "give", r.answered(0, 0, 0), 0, 6)
            .asked(12, "load", 0);
        for (int i = 0; i < 12; i++) {
            if (i % 2 == 0) {
                r.due(i, "mark", i, i, i, i, 6);
            } else {
                r.due(9, "again", i, 6);
            }
            r.asked(11 - i, "load", 0);
        }
    }

    // ---- promises 25, 26

    private static void waitBad() {
        Run r = c.edge(25, "WAIT for a LESSON of a PUPIL with a TUTOR, in DAYS. BAD.");
        r.asked(Edge.BAD, "wait", 0, 0).school(1, "a=1/50").asked(Edge.BAD, "wait", 0, 0);
        r.tutors(1, 9).goes(0, 0, 0, "wait", 0, 0).goes(1, 0, 0, "wait", 0, 0);
        r = c.edge(25, "WAIT for a LESSON of a PUPIL with a TUTOR, in DAYS. BAD.");
        r.school(12, "a=1/50").tutors(6, 9).goes(0, 0, 11, "wait", 0, 0).goes(1, 0, 5, "wait", 0, 0);
    }

    private static void waitCutUp() {
        Run r = c.edge(25, "and for the TUTOR (LOAD and 1) by PACE, cut up");
        r.school(1, "a=1/50").due(0, "tutor", 15, 1).due(1, "tutor", 15, 2).due(2, "tutor", 15, 9);
        int[][] want = {{1, 2, 3, 4, 5, 6, 7, 8, 9, 10, 11, 12, 13}, {1, 1, 2, 2, 3, 3, 4, 4, 5, 5, 6, 6, 7}, {1, 1, 1, 1, 1, 1, 1, 1, 1, 2, 2, 2, 2}};
        for (int load = 0; load <= 12; load++) {
            for (int tutor = 0; tutor < 3; tutor++) {
                r.asked(11 + want[tutor][load], "wait", 0, tutor);
                if (load < 12) {
                    r.given(0, 0, 0, tutor);
                }
            }
        }
    }

    private static void waitPost() {
        Run r = c.edge(25, "WAIT for a LESSON sent on a DAY: POST there, the pupil's HABIT (0 .. 60 DAYS, 5 at first), POST back");
        r.school(2, "a=1/50").tutors(1, 9).asked(3 + 5 + 3 + 1, "wait", 0, 0);
        r.due(1, "post", 0, 60, 2).asked(60 + 5 + 60 + 1, "wait", 0, 0).due(5, "habit", 0, 60).asked(181, "wait", 0, 0);
        r.due(1, "post", 0, 1, 0).due(60, "habit", 0, 0).asked(3, "wait", 0, 0).asked(12, "wait", 1, 0);
    }

    private static void tookBad() {
        Run r = ready(c.edge(26, "DAYS from when a MARKED THING was first sent till the pupil knows. BAD; CAST."));
        r.asked(Edge.BAD, "took", 0).marked(0, 0, 0, 0, 40);
        r.goes(0, 0, 0, "took", 0).asked(9, "took", 0);
        for (int i = 1; i < 80; i++) {
            r.does("send", 0, 0, 0);
        }
        r.goes(0, 0, 79, "took", 0);
    }

    private static void tookCast() {
        Run r = ready(c.edge(26, "BAD; CAST."));
        r.lost(1, 0, 0);
        r.answered(0, 0, 0);
        r.given(0, 0, 0, 0);
        r.again(0, 0, 0, 0);
        for (int i = 0; i < 5; i++) {
            r.asked(Edge.CAST, "took", i);
        }
    }

    private static void tookFirstSent() {
        Run r = ready(c.edge(26, "What came: DAYS from when a MARKED THING was first sent till the pupil knows."));
        r.due(1, "post", 0, 1, 0).due(0, "send", 0, 0, 0).due(2, "answer", 0, 1).due(1, "give", 0, 0, 2)
            .due(2, "mark", 0, 2, 2, 2, 2);
        r.asked(3, "took", 0).due(1, "send", 0, 0, 10).due(21, "answer", 1, 20).due(1, "give", 1, 0, 30)
            .due(32, "again", 1, 31);
        r.due(41, "answer", 1, 40).due(1, "give", 1, 1, 41).due(2, "mark", 1, 2, 2, 2, 3999)
            .asked(4000 - 10, "took", 1);
    }

    // ---- promises 27, 28

    private static void shareBad() {
        Run r = ready(c.edge(27, "SHARE by a DAY: how many are given (0), the sum of DAYS (1). BAD. (Nothing is GIVEN by it.)"));
        r.answered(0, 0, 0);
        r.goes(0, 0, 3999, "share", 6, 0).goes(1, 0, 1, "share", 6, 0).asked(1, "share", 6, 0).asked(1, "share", 6, 1);
        r.asked(0, "load", 0).asked(Edge.NONE, "thing", 0, 6).asked(0, "shareOf", 6, 0).asked(0, "load", 0);
        r.asked(Edge.BAD, "share", 4000, 2).asked(Edge.BAD, "share", -1, 0);
    }

    private static void shareNothing() {
        Run r = c.edge(27, "SHARE: ANSWERS that have come by a DAY and are not GIVEN");
        r.asked(0, "share", 0, 0).asked(0, "share", 3999, 1).school(1, "a=1/50").tutors(1, 9)
            .asked(0, "share", 3999, 0);
        r.due(0, "send", 0, 0, 0).asked(0, "share", 3999, 0).asked(0, "share", 3999, 1)
            .asked(Edge.NONE, "shareOf", 3999, 0);
        r = c.edge(27, "SHARE: ANSWERS that have come by a DAY and are not GIVEN");
        r.school(1, "a=1/50").answered(0, 0, 0);
        r.asked(0, "share", 3999, 0).asked(0, "share", 3999, 1).asked(Edge.NONE, "shareOf", 3999, 0);
    }

    private static void shareComes() {
        Run r = ready(c.edge(27, "ANSWERS that have come by a DAY and are not GIVEN"));
        r.answered(0, 0, 10);
        r.answered(0, 0, 11);
        r.asked(0, "share", 15, 0).asked(1, "share", 16, 0).asked(2, "share", 17, 0).asked(2, "share", 3999, 0)
            .asked(0, "share", 0, 0);
        r.asked(Edge.NONE, "shareOf", 15, 0).asked(0, "shareOf", 16, 0).asked(Edge.NONE, "shareOf", 16, 1)
            .asked(1, "shareOf", 17, 1);
        r.due(2, "send", 0, 0, 10).due(4000, "answer", 2, 3997).asked(2, "share", 3999, 0)
            .asked(Edge.NONE, "shareOf", 3999, 2);
    }

    private static void shareSix() {
        Run r = c.edge(27, "(6 at most, the first by numbers)");
        r.school(2, "a=1/50;b=39/50").due(0, "tutor", 1, 9);
        for (int i = 0; i < 5; i++) {
            r.answered(0, i == 2 ? 1 : 0, 0);
        }
        r.asked(4, "share", 6, 0).answered(0, 0, 0);
        r.asked(5, "share", 6, 0).asked(0, "shareOf", 6, 5).answered(0, 0, 0);
        r.asked(5, "share", 6, 0).asked(5, "share", 6, 1).asked(Edge.NONE, "shareOf", 6, 6)
            .asked(Edge.NONE, "shareOf", 6, 2);
        r.due(1, "give", 4, 0, 6).asked(5, "share", 6, 0).asked(0, "shareOf", 6, 6).asked(Edge.NONE, "shareOf", 6, 4);
        r.due(1, "tutor", 8, 9).asked(6, "share", 6, 0).asked(1, "shareOf", 6, 2).asked(0, "shareOf", 6, 6);
    }

    private static void shareNotGiven() {
        Run r = ready(c.edge(28, "NONE: none, or it is not among them"));
        r.lost(1, 0, 0);
        r.answered(0, 0, 0);
        r.given(0, 0, 0, 0);
        r.again(0, 0, 0, 0);
        r.marked(0, 0, 0, 0, 9);
        int[] want = {Edge.NONE, Edge.NONE, 1, Edge.NONE, Edge.NONE, Edge.NONE};
        for (int i = 0; i < 6; i++) {
            r.asked(want[i], "shareOf", 3999, i);
        }
        r.asked(1, "share", 3999, 0).due(12, "answer", 4, 9).asked(1, "share", 11, 0).asked(2, "share", 12, 0)
            .asked(0, "shareOf", 12, 2).asked(1, "shareOf", 12, 4);
    }

    private static void shareTeaches() {
        Run r = c.edge(27, "to TUTORS who teach their NAMES, are no KIN");
        r.school(2, "a=9/50;b=10/50").due(0, "tutor", 1, 9).due(1, "tutor", 2, 9);
        r.answered(0, 0, 0);
        r.answered(1, 1, 0);
        r.asked(2, "share", 6, 0).asked(0, "shareOf", 6, 0).asked(1, "shareOf", 6, 1);
        r.due(0, "kin", 0, 2).asked(2, "share", 6, 0).due(2, "kin", 0, 1).asked(1, "share", 6, 0)
            .asked(Edge.NONE, "shareOf", 6, 0);
        r.due(0, "kin", 1, 2).asked(0, "share", 6, 0).asked(0, "share", 6, 1).asked(Edge.NONE, "shareOf", 6, 1);
    }

    private static void shareLoad() {
        Run r = c.edge(27, "have LOAD below 12 with those given so");
        r.school(1, "a=1/50").tutors(1, 1);
        for (int i = 0; i < 10; i++) {
            r.given(0, 0, 0, 0);
        }
        for (int i = 0; i < 3; i++) {
            r.answered(0, 0, 0);
        }
        r.asked(2, "share", 6, 0).asked(23, "share", 6, 1).asked(0, "shareOf", 6, 10).asked(0, "shareOf", 6, 11)
            .asked(Edge.NONE, "shareOf", 6, 12);
        r.due(11, "give", 12, 0, 6).asked(1, "share", 6, 0).asked(12, "share", 6, 1).asked(Edge.NONE, "shareOf", 6, 11);
        r.due(12, "give", 11, 0, 6).asked(0, "share", 6, 0).asked(0, "share", 6, 1).asked(Edge.NONE, "shareOf", 6, 10);
    }

    private static void shareMost() {
        Run r = c.edge(27, "so that most are given");
        r.school(1, "a=1/50;b=12/50").due(0, "tutor", 3, 9).due(1, "tutor", 1, 1);
        for (int i = 0; i < 11; i++) {
            r.given(0, 0, 0, 0);
        }
        r.given(0, 0, 0, 1);
        r.answered(0, 0, 0);
        r.answered(0, 1, 0);
        r.asked(2, "share", 6, 0).asked(4, "share", 6, 1).asked(1, "shareOf", 6, 12).asked(0, "shareOf", 6, 13);
    }

    private static void shareLeast() {
        Run r = c.edge(27, "(LOAD with those given so ahead of it, and it, by PACE, cut up) is least");
        r.school(1, "a=1/50").due(0, "tutor", 15, 1).due(1, "tutor", 15, 2).answered(0, 0, 0);
        r.asked(1, "share", 6, 1).asked(0, "shareOf", 6, 0).answered(0, 0, 0);
        r.asked(2, "share", 6, 1).asked(0, "shareOf", 6, 0).asked(1, "shareOf", 6, 1).answered(0, 0, 0);
        r.asked(3, "share", 6, 1).asked(0, "shareOf", 6, 0).asked(1, "shareOf", 6, 1).asked(1, "shareOf", 6, 2)
            .answered(0, 0, 0);
        r.asked(5, "share", 6, 1).asked(0, "shareOf", 6, 0).asked(0, "shareOf", 6, 1).asked(1, "shareOf", 6, 2)
            .asked(1, "shareOf", 6, 3);
        r.due(1, "give", 0, 0, 6).asked(4, "share", 6, 1).asked(0, "shareOf", 6, 1).asked(1, "shareOf", 6, 2)
            .asked(1, "shareOf", 6, 3);
    }

    private static void shareLeastBetweenLoads() {
        Run r = c.edge(27, "of such that the sum over them of the DAYS till each is marked");
        r.school(1, "a=1/50").due(0, "tutor", 15, 1).due(1, "tutor", 15, 3).due(2, "tutor", 15, 1);
        for (int i = 0; i < 11; i++) {
            r.given(0, 0, 0, i < 3 ? 0 : 2);
        }
        for (int i = 11; i < 14; i++) {
            r.answered(0, 0, 0);
        }
        r.asked(3, "share", 6, 0).asked(3, "share", 6, 1);
        r.asked(1, "shareOf", 6, 11).asked(1, "shareOf", 6, 12).asked(1, "shareOf", 6, 13).answered(0, 0, 0);
        r.asked(5, "share", 6, 1).asked(1, "shareOf", 6, 11).asked(1, "shareOf", 6, 14);
    }

    private static void shareFirst() {
        Run r = c.edge(28, "of such the first by TUTORS of the first, the second, ..");
        r.school(1, "a=1/50;b=12/50").due(0, "tutor", 15, 1).due(1, "tutor", 15, 1).due(2, "tutor", 15, 1);
        for (int i = 0; i < 6; i++) {
            r.answered(0, 0, 0);
        }
        int[] want = {0, 0, 1, 1, 2, 2};
        for (int i = 0; i < 6; i++) {
            r.asked(want[i], "shareOf", 6, i);
        }
        r.due(0, "kin", 0, 1).asked(1, "shareOf", 6, 0).asked(1, "shareOf", 6, 2).asked(2, "shareOf", 6, 3)
            .asked(12, "share", 6, 1);
    }

    private static void shareNotGivenLast() {
        Run r = c.edge(28, "(not given: last)");
        r.school(1, "a=1/50").tutors(1, 9);
        for (int i = 0; i < 11; i++) {
            r.given(0, 0, 0, 0);
        }
        r.answered(0, 0, 0);
        r.answered(0, 0, 0);
        r.asked(1, "share", 6, 0).asked(0, "shareOf", 6, 11).asked(Edge.NONE, "shareOf", 6, 12);
    }

    private static void shareOf() {
        Run r = ready(c.edge(28, "The TUTOR to whom SHARE gives a THING. BAD; NONE"));
        r.asked(Edge.BAD, "shareOf", 6, 0).answered(0, 0, 0);
        r.goes(0, 0, 3999, "shareOf", 6, 0).goes(1, 0, 0, "shareOf", 6, 0);
        for (int i = 1; i < 80; i++) {
            r.does("send", 0, 0, 0);
        }
        r.goes(1, 0, 79, "shareOf", 6, 0);
    }

    // ---- promise 29

    private static void offsetBad() {
        Run r = c.edge(29, "BAD less 1000 (-1001): also one");
        r.asked(-1001, "offset", 0, 1, 0).school(1, "a=1/50").tutors(1, 9).asked(-1001, "offset", 0, 1, 0)
            .asked(-1001, "offset", 0, 0, 0);
        r.tutors(5, 9).goes(0, 0, 4, "offset", 0, 5, 0).goes(1, 1, 5, "offset", 0, 0, 0);
        r = c.edge(29, "BAD less 1000 (-1001): also one");
        r.school(1, "a=1/50").tutors(6, 9).goes(2, 0, 3, "offset", 0, 5, 0);
        for (int i = 0; i < 6; i++) {
            for (int what = 0; what < 4; what++) {
                r.asked(-1001, "offset", i, i, what);
            }
        }
        r.asked(-1001, "offset", 0, 6, 0).asked(-1001, "offset", 6, 0, 0).asked(-1001, "offset", -1, 0, 0)
            .asked(-1001, "offset", 0, -1, 0);
    }

    private static void offsetNone() {
        Run r = c.edge(29, "NONE less that (-1004): both marked none (1 .. 3)");
        r.school(1, "a=1/100").tutors(3, 9).marked(0, 0, 0, 0, 40);
        r.marked(0, 0, 0, 1, 40);
        for (int what = 0; what < 4; what++) {
            r.asked(what == 0 ? 0 : -1004, "offset", 0, 1, what).asked(what == 0 ? 0 : -1004, "offset", 1, 0, what);
        }
        r.due(40, "second", 0, 1, 40, 40, 40).asked(1, "offset", 0, 1, 0).asked(-1004, "offset", 0, 2, 3)
            .asked(0, "offset", 0, 2, 0);
        for (int what = 1; what < 4; what++) {
            r.asked(0, "offset", 0, 1, what).asked(0, "offset", 1, 0, what).asked(-1004, "offset", 1, 2, what);
        }
    }

    private static void offsetOrder() {
        Run r = c.edge(29, "OFFSET of two TUTORS: marks of the one less those of the other for all that both marked: sum by how many (cut), least, greatest.");
        r.school(1, "a=1/100").tutors(3, 9);
        r.due(10, "second", r.marked(0, 0, 0, 0, 40), 1, 10, 10, 10);
        r.due(70, "second", r.marked(0, 0, 0, 1, 50), 0, 70, 70, 70);
        r.due(99, "second", r.marked(0, 0, 0, 0, 50), 2, 99, 99, 99);
        int[] want = {2, 25, 20, 30};
        int[] turned = {2, -25, -30, -20};
        for (int what = 0; what < 4; what++) {
            r.asked(want[what], "offset", 0, 1, what).asked(turned[what], "offset", 1, 0, what);
        }
    }

    private static void offsetOfEachPair() {
        Run r = c.edge(29, "marks of the one less those of the other for all that both marked");
        r.school(1, "a=1/100").tutors(3, 9);
        int[][] pairs = {{0, 1, 1}, {1, 0, 2}, {0, 2, 4}, {2, 0, 8}, {1, 2, 16}, {2, 1, 32}};
        for (int[] p : pairs) {
            r.due(50 - p[2], "second", r.marked(0, 0, 0, p[0], 50), p[1], 50 - p[2], 50 - p[2], 50 - p[2]);
        }
        for (int[] p : pairs) {
            int there = p[2];
            int back = there == 1 || there == 4 || there == 16 ? -2 * there : -there / 2;
            r.asked(2, "offset", p[0], p[1], 0).asked((there + back) / 2, "offset", p[0], p[1], 1);
            r.asked(back, "offset", p[0], p[1], 2).asked(there, "offset", p[0], p[1], 3);
        }
    }

    private static void offsetLeastGreatest() {
        Run r = c.edge(29, "0 by how many, 1 the mean, 2 the least, 3 the greatest");
        r.school(1, "a=1/100").tutors(2, 9);
        r.due(0, "second", r.marked(0, 0, 0, 0, 99), 1, 0, 0, 0);
        r.asked(99, "offset", 0, 1, 2).asked(99, "offset", 0, 1, 3).asked(-99, "offset", 1, 0, 2)
            .asked(-99, "offset", 1, 0, 3);
        r.due(100, "second", r.marked(0, 0, 0, 0, 0), 1, 100, 100, 100);
        r.asked(-100, "offset", 0, 1, 2).asked(99, "offset", 0, 1, 3).asked(100, "offset", 1, 0, 3)
            .asked(0, "offset", 0, 1, 1);
        r.due(0, "second", r.marked(0, 0, 0, 0, 100), 1, 0, 0, 0);
        r.asked(100, "offset", 0, 1, 3).asked(-100, "offset", 0, 1, 2).asked(3, "offset", 0, 1, 0)
            .asked(33, "offset", 0, 1, 1);
    }
}
