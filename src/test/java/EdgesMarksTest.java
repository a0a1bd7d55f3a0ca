/** The boundary cases of giving, marking and what is told of things (promises 15 to 21). */
public final class EdgesMarksTest {
    private static final Edge c = new Edge();

    public static void main(String[] args) {
        giveBad();
        giveCast();
        giveKinds();
        giveComes();
        giveKin();
        giveNames();
        giveFull();
        giveOrder();
        markParts();
        markWeighs();
        markBad();
        markCast();
        markKinds();
        markNoSooner();
        againBad();
        againCast();
        againKinds();
        againTwice();
        againSent();
        secondBad();
        secondCast();
        secondNot();
        thing();
        thingNones();
        marks();
        marksCast();
        marksKnown();
        count();
        c.end();
    }

    private static Run ready(Run r) {
        return r.school(2, "a=1/50;b=12/50;c=3/50:a").tutors(2, 9);
    }

    /** Things 0 and 1 to a pupil, of which 1 is lost; 2 an answer, 3 a given one, 4 again, 5 marked. */
    private static Run ofAllKinds(Run r) {
        ready(r).lost(1, 0, 0);
        r.answered(0, 0, 0);
        r.given(0, 0, 0, 0);
        r.again(0, 0, 0, 0);
        r.marked(0, 0, 0, 0, 40);
        return r;
    }

    // ---- promise 15

    private static void giveBad() {
        Run r = c.edge(15, "An ANSWER is GIVEN to a TUTOR: that one's LOAD. BAD");
        r.school(2, "a=1/50").refused(Edge.BAD, "give", 0, 0, 6).answered(0, 0, 0);
        r.refused(Edge.BAD, "give", 0, 0, 6).tutors(1, 9).goes(0, 0, 0, "give", 0, 0, 6).goes(1, 0, 0, "give", 0, 0, 6);
        r.tutors(5, 9).goes(1, 0, 5, "give", 0, 0, 6).goes(2, 0, 3999, "give", 0, 0, 6).answered(1, 0, 0);
        r.goes(0, 0, 1, "give", 0, 0, 6).due(1, "give", 1, 5, 6).due(2, "give", 0, 5, 6).asked(5, "thing", 0, 6);
    }

    private static void giveCast() {
        Run r = ofAllKinds(c.edge(15, "CAST: LESSONS, LOST ones"));
        r.refused(Edge.CAST, "give", 0, 0, 3999).refused(Edge.CAST, "give", 1, 0, 3999)
            .refused(Edge.CAST, "give", 0, 0, 0);
    }

    private static void giveKinds() {
        Run r = ofAllKinds(c.edge(15, "NOT: it is MARKED, AGAIN, is GIVEN"));
        for (int tutor = 0; tutor < 2; tutor++) {
            for (int thing = 3; thing < 6; thing++) {
                r.refused(Edge.NOT, "give", thing, tutor, 3999);
            }
        }
        r.due(1, "give", 2, 1, 6).refused(Edge.NOT, "give", 2, 1, 6);
    }

    private static void giveComes() {
        Run r = ready(c.edge(15, "GIVEN to a TUTOR is an ANSWER that has come, on that DAY or later"));
        r.due(0, "send", 0, 0, 10).due(16, "answer", 0, 13).refused(Edge.NOT, "give", 0, 0, 15)
            .refused(Edge.NOT, "give", 0, 0, 0);
        r.due(1, "give", 0, 0, 16).due(1, "send", 0, 0, 10).due(16, "answer", 1, 13).due(2, "give", 1, 0, 17);
        r.due(2, "send", 0, 0, 10).due(16, "answer", 2, 13).due(3, "give", 2, 0, 3999);
        r.due(3, "send", 0, 0, 10).due(4000, "answer", 3, 3997).refused(Edge.NOT, "give", 3, 0, 3999);
        r.due(4, "send", 0, 0, 10).due(3999, "answer", 4, 3996).refused(Edge.NOT, "give", 4, 0, 3998)
            .due(4, "give", 4, 0, 3999);
        r.due(20, "again", 1, 17).due(23, "answer", 1, 20).refused(Edge.NOT, "give", 1, 0, 22).due(4, "give", 1, 0, 23);
    }

    private static void giveKin() {
        Run r = c.edge(15, "KIN are pupils (bits) of whom they may mark none");
        r.school(12, "a=1/50").tutors(2, 9);
        int first = r.answered(0, 0, 0);
        int last = r.answered(11, 0, 0);
        r.due(0, "kin", 0, 2049).refused(Edge.NOT, "give", first, 0, 6).refused(Edge.NOT, "give", last, 0, 6);
        r.due(2049, "kin", 0, 4094).due(1, "give", first, 0, 6).refused(Edge.NOT, "give", last, 0, 6);
        r.due(4094, "kin", 0, 2047).due(2, "give", last, 0, 6);
    }

    private static void giveNames() {
        Run r = c.edge(15, "teach NAMES by tens (bits 0 .. 3: NAMES 0 .. 9, 10 .. 19, ..)");
        r.school(1, "a=0/50;b=9/50;c=10/50;d=19/50;e=20/50;f=29/50;g=30/50;h=39/50");
        for (int i = 0; i < 4; i++) {
            r.due(i, "tutor", 1 << i, 9);
        }
        for (int lesson = 0; lesson < 8; lesson++) {
            r.answered(0, lesson, 0);
        }
        for (int lesson = 0; lesson < 8; lesson++) {
            for (int tutor = 0; tutor < 4; tutor++) {
                if (tutor != lesson / 2) {
                    r.refused(Edge.NOT, "give", lesson, tutor, 6);
                }
            }
            r.due(lesson % 2 + 1, "give", lesson, lesson / 2, 6);
        }
        r.answered(0, 0, 0);
        r.due(4, "tutor", 0, 9).refused(Edge.NOT, "give", 8, 4, 6).due(5, "tutor", 14, 9)
            .refused(Edge.NOT, "give", 8, 5, 6);
    }

    private static void giveFull() {
        Run r = ready(c.edge(15, "have a LOAD of things GIVEN and not yet MARKED, nor AGAIN, 12 at most"));
        for (int i = 0; i < 16; i++) {
            r.answered(0, 0, 0);
        }
        for (int i = 0; i < 12; i++) {
            r.due(i + 1, "give", i, 0, 6);
        }
        r.refused(Edge.FULL, "give", 12, 0, 6).asked(12, "load", 0).due(1, "give", 12, 1, 6);
        r.due(40, "mark", 0, 40, 40, 40, 6).due(12, "give", 13, 0, 6).refused(Edge.FULL, "give", 14, 0, 6);
        r.due(9, "again", 1, 6).due(12, "give", 14, 0, 6).refused(Edge.FULL, "give", 15, 0, 6);
        r = ready(c.edge(15, "FULL: 12"));
        for (int i = 0; i < 11; i++) {
            r.given(0, 0, 0, 1);
        }
        r.due(12, "give", r.answered(0, 0, 0), 1, 6).refused(Edge.FULL, "give", r.answered(0, 0, 0), 1, 6)
            .due(1, "give", 12, 0, 6);
    }

    private static void giveOrder() {
        Run r = ofAllKinds(c.edge(15, "Refusals are answers, of several the first that a call names"));
        r.refused(Edge.BAD, "give", 0, 2, 0).refused(Edge.BAD, "give", 1, 0, 4000).refused(Edge.BAD, "give", 5, 0, -1);
        r.due(2, "tutor", 1, 9);
        for (int i = 0; i < 12; i++) {
            r.given(0, 0, 0, 2);
        }
        r.due(0, "kin", 2, 2);
        r.refused(Edge.CAST, "give", 0, 2, 0).refused(Edge.NOT, "give", 3, 2, 6).refused(Edge.NOT, "give", 2, 2, 5);
        int other = r.answered(0, 1, 0);
        int kin = r.answered(1, 0, 0);
        r.refused(Edge.NOT, "give", other, 2, 6).refused(Edge.NOT, "give", kin, 2, 6)
            .refused(Edge.FULL, "give", 2, 2, 6);
    }

    // ---- promise 16

    private static void markParts() {
        Run r = ofAllKinds(c.edge(16, "with three parts (0 .. 100 each)"));
        for (int part = 1; part <= 3; part++) {
            r.goes(part, 0, 100, "mark", 3, 50, 50, 50, 6);
        }
        r.due(100, "mark", 3, 100, 100, 100, 6);
        r.due(0, "mark", r.given(1, 0, 0, 0), 0, 0, 0, 6);
    }

    private static void markWeighs() {
        Run r = ready(c.edge(16, "marks are (2 first, second, third) by 4"));
        int[][] parts = {{0, 0, 0, 0}, {0, 100, 0, 25}, {0, 0, 100, 25}, {24, 0, 0, 12}, {1, 2, 3, 1}, {1, 2, 4, 2}, {100, 0, 0, 50}};
        for (int[] p : parts) {
            r.due(p[3], "mark", r.given(0, 0, 0, 0), p[0], p[1], p[2], 6);
        }
        r.due(100, "mark", r.given(1, 0, 0, 0), 100, 100, 100, 6);
    }

    private static void markBad() {
        Run r = ofAllKinds(c.edge(16, "It is MARKED: marks. BAD"));
        r.goes(0, 0, 5, "mark", 3, 1, 1, 1, 6).goes(4, 0, 3999, "mark", 3, 1, 1, 1, 6)
            .refused(Edge.BAD, "mark", 6, 1, 1, 1, 6);
        r.refused(Edge.BAD, "mark", 0, 101, 1, 1, 6).refused(Edge.BAD, "mark", 1, 1, 1, 1, 4000)
            .refused(Edge.BAD, "mark", 5, 1, -1, 1, 6);
        c.edge(16, "It is MARKED: marks. BAD").refused(Edge.BAD, "mark", 0, 1, 1, 1, 6);
    }

    private static void markCast() {
        Run r = ofAllKinds(c.edge(16, "CAST: LESSONS, LOST ones"));
        r.refused(Edge.CAST, "mark", 0, 1, 1, 1, 3999).refused(Edge.CAST, "mark", 1, 1, 1, 1, 3999)
            .refused(Edge.CAST, "mark", 0, 1, 1, 1, 0);
    }

    private static void markKinds() {
        Run r = ofAllKinds(c.edge(16, "NOT: it is MARKED, AGAIN, not GIVEN, or GIVEN later"));
        r.refused(Edge.NOT, "mark", 2, 1, 1, 1, 3999).refused(Edge.NOT, "mark", 4, 1, 1, 1, 3999)
            .refused(Edge.NOT, "mark", 5, 1, 1, 1, 3999);
        r.due(12, "answer", 4, 9).refused(Edge.NOT, "mark", 4, 1, 1, 1, 3999);
    }

    private static void markNoSooner() {
        Run r = ready(c.edge(16, "MARKED it comes to be on a DAY no sooner than it is GIVEN"));
        r.answered(0, 0, 0);
        r.due(1, "give", 0, 0, 20).refused(Edge.NOT, "mark", 0, 1, 1, 1, 19).refused(Edge.NOT, "mark", 0, 1, 1, 1, 6);
        r.due(1, "mark", 0, 1, 1, 1, 20).asked(20, "marks", 0, 1).answered(0, 0, 0);
        r.due(1, "give", 1, 0, 20).due(1, "mark", 1, 1, 1, 1, 21).answered(0, 0, 0);
        r.due(1, "give", 2, 0, 3999).refused(Edge.NOT, "mark", 2, 1, 1, 1, 3998).due(1, "mark", 2, 1, 1, 1, 3999);
    }

    // ---- promise 17

    private static void againBad() {
        Run r = ofAllKinds(c.edge(17, "It must be ANSWERED AGAIN: the DAY on which it comes back (NONE: LOST). BAD"));
        r.goes(0, 0, 5, "again", 3, 6).goes(1, 0, 3999, "again", 3, 6);
        r.refused(Edge.BAD, "again", 6, 6).refused(Edge.BAD, "again", 0, 4000).refused(Edge.BAD, "again", 5, -1);
        c.edge(17, "It must be ANSWERED AGAIN: the DAY on which it comes back (NONE: LOST). BAD").refused(Edge.BAD, "again", 0, 6);
    }

    private static void againCast() {
        Run r = ofAllKinds(c.edge(17, "CAST: LESSONS, LOST ones"));
        r.refused(Edge.CAST, "again", 0, 3999).refused(Edge.CAST, "again", 1, 3999).refused(Edge.CAST, "again", 0, 0);
    }

    private static void againKinds() {
        Run r = ofAllKinds(c.edge(17, "NOT: it is MARKED, AGAIN, not GIVEN, or GIVEN later"));
        r.refused(Edge.NOT, "again", 2, 3999).refused(Edge.NOT, "again", 4, 3999).refused(Edge.NOT, "again", 5, 3999);
        r.due(12, "answer", 4, 9).refused(Edge.NOT, "again", 4, 3999).due(2, "give", 4, 0, 20);
        r.refused(Edge.NOT, "again", 4, 19).refused(Edge.NOT, "again", 4, 0).due(23, "again", 4, 20);
    }

    private static void againTwice() {
        Run r = ready(c.edge(17, "or AGAIN (to be ANSWERED once more; at most twice for a THING)"));
        r.given(0, 0, 0, 0);
        r.asked(0, "thing", 0, 7).due(9, "again", 0, 6).asked(1, "thing", 0, 7).due(12, "answer", 0, 9)
            .due(1, "give", 0, 0, 12);
        r.due(15, "again", 0, 12).asked(2, "thing", 0, 7).due(18, "answer", 0, 15).due(1, "give", 0, 1, 18);
        r.refused(Edge.NOT, "again", 0, 18).refused(Edge.NOT, "again", 0, 3999).asked(1, "load", 1);
        r.due(40, "mark", 0, 40, 40, 40, 18).asked(2, "thing", 0, 7).asked(21, "took", 0);
        r.given(0, 0, 0, 0);
        r.due(9, "again", 1, 6).asked(1, "thing", 1, 7);
    }

    private static void againSent() {
        Run r = ready(c.edge(17, "it is sent then, with no TUTOR, and comes to the pupil POST DAYS later, or is LOST"));
        r.given(0, 0, 0, 1);
        r.due(1, "post", 0, 60, 2).due(67, "again", 0, 7).asked(7, "thing", 0, 4).asked(67, "thing", 0, 5);
        r.asked(Edge.NONE, "thing", 0, 6).asked(3, "thing", 0, 0).asked(0, "load", 1);
        r.due(1, "post", 0, 3, 0).given(0, 0, 0, 1);
        r.due(1, "post", 0, 3, 2).due(2, "send", 0, 0, 0).due(Edge.NONE, "again", 1, 7);
        r.asked(4, "thing", 1, 0).asked(7, "thing", 1, 4).asked(Edge.NONE, "thing", 1, 5)
            .asked(Edge.NONE, "thing", 1, 6);
        r.asked(0, "load", 1).refused(Edge.CAST, "answer", 1, 99);
    }

    // ---- promise 18

    private static void secondBad() {
        Run r = ofAllKinds(c.edge(18, "A MARKED thing is MARKED by a second TUTOR, too: those marks. BAD"));
        r.goes(0, 0, 5, "second", 5, 1, 1, 1, 1).goes(1, 0, 1, "second", 5, 1, 1, 1, 1);
        for (int part = 2; part <= 4; part++) {
            r.goes(part, 0, 100, "second", 5, 1, 50, 50, 50);
        }
        r.refused(Edge.BAD, "second", 0, 2, 1, 1, 1).refused(Edge.BAD, "second", 6, 1, 1, 1, 1)
            .refused(Edge.BAD, "second", 5, 0, 101, 1, 1);
        r.tutors(4, 9).goes(1, 0, 5, "second", 5, 1, 1, 1, 1).due(100, "second", 5, 5, 100, 100, 100)
            .asked(100, "marks", 5, 2);
        r.due(0, "second", r.marked(0, 0, 0, 1, 30), 0, 0, 0, 3).asked(0, "marks", 6, 2);
    }

    private static void secondCast() {
        Run r = ofAllKinds(c.edge(18, "CAST: not MARKED"));
        for (int thing = 0; thing < 5; thing++) {
            r.refused(Edge.CAST, "second", thing, 1, 1, 1, 1).refused(Edge.CAST, "second", thing, 0, 1, 1, 1);
        }
    }

    private static void secondNot() {
        Run r = ofAllKinds(c.edge(18, "NOT: the same TUTOR, or two have"));
        r.tutors(1, 9).refused(Edge.NOT, "second", 5, 0, 1, 1, 1).due(7, "second", 5, 1, 7, 7, 7);
        for (int tutor = 0; tutor < 3; tutor++) {
            r.refused(Edge.NOT, "second", 5, tutor, 9, 9, 9);
        }
        r.asked(7, "marks", 5, 2).asked(40, "marks", 5, 0).asked(0, "thing", 5, 6).asked(0, "load", 1);
    }

    // ---- promises 19, 20, 21

    private static void thing() {
        Run r = c.edge(19, "THINGS 0 .. 79, as they come, are of KINDS: 0 LESSON, below it 1 ANSWER, below that 2 MARKED and 3 AGAIN; 4 LOST, below LESSON.");
        r.asked(Edge.BAD, "thing", 0, 0);
        ofAllKinds(r).goes(0, 0, 5, "thing", 0, 0).goes(1, 0, 7, "thing", 0, 0);
        int[] kinds = {0, 4, 1, 1, 3, 2};
        for (int i = 0; i < 6; i++) {
            r.asked(kinds[i], "thing", i, 0);
        }
        r = ready(c.edge(19, "THINGS 0 .. 79, as they come"));
        for (int i = 0; i < 80; i++) {
            r.does("send", i % 2, i % 2, i);
        }
        r.goes(0, 0, 79, "thing", 0, 0).asked(1, "thing", 79, 1).asked(12, "thing", 79, 2).asked(1, "thing", 79, 3)
            .asked(79, "thing", 79, 4);
    }

    private static void thingNones() {
        Run r = ofAllKinds(c.edge(19, "5 the DAY it comes (NONE: LOST), 6 the TUTOR (NONE), 7 how often AGAIN. BAD."));
        int[] comes = {3, Edge.NONE, 6, 6, 9, 6};
        int[] tutors = {Edge.NONE, Edge.NONE, Edge.NONE, 0, Edge.NONE, 0};
        int[] sent = {0, 0, 3, 3, 6, 3};
        for (int i = 0; i < 6; i++) {
            r.asked(comes[i], "thing", i, 5).asked(tutors[i], "thing", i, 6).asked(i == 4 ? 1 : 0, "thing", i, 7);
            r.asked(sent[i], "thing", i, 4);
        }
    }

    private static void marks() {
        Run r = ofAllKinds(c.edge(20, "Of a MARKED one: 0 marks, 1 the DAY, 2 marks by the second one (NONE), 3 the DAY on which the pupil knows."));
        r.goes(0, 0, 5, "marks", 5, 0).goes(1, 0, 3, "marks", 5, 0).asked(40, "marks", 5, 0).asked(6, "marks", 5, 1);
        r.asked(Edge.NONE, "marks", 5, 2).due(0, "second", 5, 1, 0, 0, 0).asked(0, "marks", 5, 2)
            .asked(9, "marks", 5, 3);
        c.edge(20, "BAD; CAST.").asked(Edge.BAD, "marks", 0, 0);
    }

    private static void marksCast() {
        Run r = ofAllKinds(c.edge(20, "BAD; CAST."));
        for (int i = 0; i < 5; i++) {
            for (int what = 0; what < 4; what++) {
                r.asked(Edge.CAST, "marks", i, what);
            }
            r.asked(Edge.BAD, "marks", i, 4).asked(Edge.BAD, "marks", i, -1);
        }
        r.asked(Edge.BAD, "marks", 6, 0).asked(Edge.BAD, "marks", -1, 0);
    }

    private static void marksKnown() {
        Run r = ready(c.edge(20, "the pupil knows of one POST DAYS behind that"));
        r.due(1, "post", 0, 1, 0).due(1, "post", 1, 60, 0);
        r.due(9, "mark", r.given(0, 0, 0, 0), 9, 9, 9, 100).due(9, "mark", r.given(1, 0, 0, 0), 9, 9, 9, 3999);
        r.asked(101, "marks", 0, 3).asked(4059, "marks", 1, 3);
    }

    private static void count() {
        Run r = c.edge(21, "How many: 0 PUPILS, 1 TUTORS, 2 THINGS, 3 .. 7 THINGS of KINDS 0 .. 4. BAD.");
        r.goes(0, 0, 7, "count", 0);
        for (int what = 0; what < 8; what++) {
            r.asked(0, "count", what);
        }
        ofAllKinds(r).goes(0, 0, 7, "count", 0);
        int[] want = {2, 2, 6, 1, 2, 1, 1, 1};
        for (int what = 0; what < 8; what++) {
            r.asked(want[what], "count", what);
        }
    }
}
