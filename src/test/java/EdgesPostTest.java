/** The boundary cases of the post, of sending and of answering (promises 12 to 14). */
public final class EdgesPostTest {
    private static final Edge c = new Edge();

    public static void main(String[] args) {
        postDays();
        postEach();
        postBad();
        postLoses();
        postSince();
        postNoneLost();
        sendBad();
        sendNoSuchLesson();
        sendBeginning();
        sendMay();
        sendLeft();
        sendComes();
        sendFull();
        sendOrder();
        answerBad();
        answerCast();
        answerKinds();
        answerComes();
        answerLeft();
        answerLost();
        answerOrder();
        c.end();
    }

    private static Run ready(Run r) {
        return r.school(2, "a=1/50;b=12/50;c=3/50:a").tutors(2, 9);
    }

    // ---- promise 12

    private static void postDays() {
        Run r = ready(c.edge(12, "POST to a PLACE takes 1 .. 60 DAYS each way (3 at first)"));
        r.goes(0, 0, 5, "post", 0, 3, 0).goes(1, 1, 60, "post", 0, 3, 0).goes(1, 1, 60, "post", 5, 3, 9);
        r.due(0, "send", 0, 0, 0).asked(3, "thing", 0, 5).refused(Edge.NOT, "answer", 0, 2).due(6, "answer", 0, 3);
        r.due(1, "post", 0, 1, 0).due(1, "send", 0, 0, 0).asked(1, "thing", 1, 5).due(2, "answer", 1, 1);
        r.due(1, "post", 0, 60, 0).due(2, "send", 0, 0, 0).asked(60, "thing", 2, 5).due(120, "answer", 2, 60);
        r.due(3, "send", 1, 0, 0).asked(3, "thing", 3, 5).asked(6, "thing", 0, 5);
        r.due(1, "give", 0, 0, 6).due(67, "again", 0, 7).due(40, "mark", r.given(0, 0, 0, 0), 40, 40, 40, 120);
        r.asked(180, "marks", 4, 3).asked(180, "took", 4);
    }

    private static void postEach() {
        Run r = ready(c.edge(12, "(n 2 .. 9; 0: none, at first)"));
        r.goes(2, 2, 9, "post", 0, 3, 2).refused(Edge.BAD, "post", 0, 3, 1).refused(Edge.BAD, "post", 0, 3, -1);
        r.refused(Edge.BAD, "post", 0, 3, -2).due(1, "post", 0, 3, 0);
        r.due(1, "post", 0, 3, 2).due(0, "send", 0, 0, 0).refused(Edge.BAD, "post", 0, 3, 1)
            .refused(Edge.BAD, "post", 0, 3, 10);
        r.refused(Edge.BAD, "post", 0, 0, 9).refused(Edge.BAD, "post", 0, 61, 9).refused(Edge.BAD, "post", 6, 9, 9);
        r.due(1, "send", 0, 0, 0).asked(4, "thing", 1, 0);
    }

    private static void postBad() {
        Run r = ready(c.edge(12, "POST of a PLACE: how many DAYS, each which one is lost: 1. BAD."));
        r.due(1, "post", 0, 7, 3).due(0, "send", 0, 0, 0).due(1, "send", 0, 0, 0);
        r.goes(0, 0, 5, "post", 0, 9, 2).goes(1, 1, 60, "post", 0, 9, 2).goes(2, 2, 9, "post", 0, 9, 2);
        r.due(2, "send", 0, 0, 0).asked(4, "thing", 2, 0).due(3, "send", 0, 0, 0).asked(7, "thing", 3, 5);
    }

    private static void postLoses() {
        for (int each = 2; each <= 9; each++) {
            Run r = ready(c.edge(12, "and loses each n-th thing that is sent to it, or from it, since that was told"));
            r.due(1, "post", 0, 3, each);
            for (int i = 1; i <= 2 * each + 1; i++) {
                r.due(i - 1, "send", 0, 0, 0);
                r.is("kind of number " + i + " of each " + each, r.does("thing", i - 1, 0), i % each == 0 ? 4 : 0);
                r.is("day of number " + i + " of each " + each, r.does("thing", i - 1, 5), i % each == 0 ? Edge.NONE : 3);
            }
        }
        Run r = ready(c.edge(12, "and loses each n-th thing that is sent to it, or from it, since that was told"));
        r.due(1, "post", 0, 3, 4).due(0, "send", 0, 0, 0).due(6, "answer", 0, 3).due(1, "give", 0, 0, 6);
        r.due(1, "send", 1, 0, 0).due(6, "answer", 1, 3);
        r.due(9, "again", 0, 6).due(Edge.NONE, "answer", 0, 9).asked(4, "thing", 0, 0);
    }

    private static void postSince() {
        Run r = ready(c.edge(12, "since that was told"));
        r.due(1, "post", 0, 3, 3).due(0, "send", 0, 0, 0).due(1, "send", 0, 0, 0);
        r.due(1, "post", 0, 3, 3).due(2, "send", 0, 0, 0).due(3, "send", 0, 0, 0).due(4, "send", 0, 0, 0);
        r.asked(0, "thing", 2, 0).asked(0, "thing", 3, 0).asked(4, "thing", 4, 0);
        r.due(5, "send", 0, 0, 0).due(1, "post", 1, 3, 2).due(6, "send", 0, 0, 0).due(7, "send", 0, 0, 0);
        r.asked(0, "thing", 6, 0).asked(4, "thing", 7, 0);
        r.due(1, "post", 0, 3, 2).due(8, "send", 0, 0, 0).due(9, "send", 1, 0, 0);
        r.asked(0, "thing", 8, 0).asked(0, "thing", 9, 0).due(10, "send", 0, 0, 0).asked(4, "thing", 10, 0);
    }

    private static void postNoneLost() {
        Run r = ready(c.edge(12, "0: none, at first"));
        for (int i = 0; i < 20; i++) {
            r.due(i, "send", 0, 0, 0);
            r.is("kind", r.does("thing", i, 0), 0);
        }
        r.due(1, "post", 0, 3, 2).due(20, "send", 0, 0, 0).due(1, "post", 0, 3, 0);
        for (int i = 21; i < 40; i++) {
            r.due(i, "send", 0, 0, 0);
            r.is("kind", r.does("thing", i, 0), 0);
        }
        r = ready(c.edge(16, "(What is MARKED comes back surely.)"));
        r.given(0, 0, 0, 0);
        r.due(1, "post", 0, 3, 2).due(1, "send", 0, 0, 0).due(40, "mark", 0, 40, 40, 40, 6);
        r.asked(2, "thing", 0, 0).asked(9, "marks", 0, 3).due(2, "send", 0, 0, 0).asked(4, "thing", 2, 0);
    }

    // ---- promise 13

    private static void sendBad() {
        Run r = c.edge(13, "A LESSON is SENT: the number of the THING.");
        r.refused(Edge.BAD, "send", 0, 0, 0).school(12, "a=1/1;b=1/1;c=1/1;d=1/1;e=1/1;f=1/1;g=1/1;h=1/1");
        r.goes(0, 0, 11, "send", 0, 0, 0).goes(1, 0, 7, "send", 0, 0, 0).goes(2, 0, 3999, "send", 0, 0, 0);
        r.due(0, "send", 11, 7, 5).due(1, "send", 0, 0, 0).asked(11, "thing", 0, 1).asked(7, "thing", 0, 3)
            .asked(5, "thing", 0, 4);
    }

    private static void sendNoSuchLesson() {
        Run r = c.edge(13, "BAD: also no such LESSON, a DAY ahead of the beginning");
        r.school(1, "b=1/50;g=2/50");
        for (int i = 0; i < 8; i++) {
            if (i != 1 && i != 6) {
                r.refused(Edge.BAD, "send", 0, i, 0);
            }
        }
        r.due(0, "send", 0, 1, 0).due(1, "send", 0, 6, 0).edition(0, 1, 0, "a=1/50").due(0, "move", 0, 1, 0);
        r.refused(Edge.BAD, "send", 0, 1, 0).due(2, "send", 0, 0, 0);
    }

    private static void sendBeginning() {
        Run r = c.edge(13, "a DAY ahead of the beginning");
        r.edition(0, 0, 0, "a=1/50").due(0, "pupil", 0, 0, 100).due(1, "pupil", 0, 0, 3999).due(2, "pupil", 0, 0, 0);
        r.refused(Edge.BAD, "send", 0, 0, 99).refused(Edge.BAD, "send", 0, 0, 0).due(0, "send", 0, 0, 100);
        r.refused(Edge.BAD, "send", 1, 0, 3998).due(1, "send", 1, 0, 3999).due(2, "send", 2, 0, 0);
    }

    private static void sendMay() {
        Run r = ready(c.edge(13, "NOT: it MAY not be had, LEFT"));
        r.refused(Edge.NOT, "send", 0, 2, 0).marked(0, 0, 0, 0, 49);
        r.refused(Edge.NOT, "send", 0, 2, 0).marked(0, 0, 0, 0, 50);
        r.refused(Edge.NOT, "send", 0, 0, 0).due(2, "send", 0, 2, 0).refused(Edge.NOT, "send", 1, 2, 0);
        r = ready(c.edge(13, "SENT is a LESSON to a pupil (as MAY be had by what is MARKED)"));
        r.given(0, 0, 100, 0);
        r.refused(Edge.NOT, "send", 0, 2, 3999).due(50, "mark", 0, 50, 50, 50, 3999).due(1, "send", 0, 2, 0);
    }

    private static void sendLeft() {
        Run r = ready(c.edge(13, "LEFT is a pupil from a DAY on: nothing is SENT, ANSWERED, paid on that DAY and later ones."));
        r.due(0, "leave", 0, 10).due(0, "send", 0, 0, 9).refused(Edge.NOT, "send", 0, 0, 10)
            .refused(Edge.NOT, "send", 0, 0, 11);
        r.refused(Edge.NOT, "send", 0, 0, 3999).due(1, "send", 1, 0, 10).due(2, "send", 0, 0, 0);
        r = ready(c.edge(13, "LEFT is a pupil from a DAY on: nothing is SENT, ANSWERED, paid on that DAY and later ones."));
        r.due(0, "leave", 0, 0).refused(Edge.NOT, "send", 0, 0, 0).due(0, "leave", 1, 3999).due(0, "send", 1, 0, 3998);
        r.refused(Edge.NOT, "send", 1, 0, 3999);
    }

    private static void sendComes() {
        Run r = ready(c.edge(13, "it comes POST DAYS later, or is LOST (told at once by its KIND)"));
        r.due(1, "post", 0, 60, 2).due(0, "send", 0, 0, 3999).due(1, "send", 0, 0, 3999);
        r.asked(4059, "thing", 0, 5).asked(0, "thing", 0, 0).asked(Edge.NONE, "thing", 1, 5).asked(4, "thing", 1, 0);
        r.asked(3999, "thing", 1, 4).asked(3999, "thing", 0, 4).refused(Edge.NOT, "answer", 0, 3999);
    }

    private static void sendFull() {
        Run r = ready(c.edge(13, "FULL: 80"));
        r.due(1, "post", 0, 3, 9);
        for (int i = 0; i < 79; i++) {
            r.due(i, "send", i < 70 ? 1 : 0, i % 2, i);
        }
        r.due(79, "send", 1, 1, 99).refused(Edge.FULL, "send", 1, 1, 99).refused(Edge.FULL, "send", 0, 0, 0);
        r.asked(80, "count", 2).asked(4, "thing", 78, 0).asked(0, "thing", 79, 0).asked(Edge.BAD, "thing", 80, 0);
    }

    private static void sendOrder() {
        Run r = ready(c.edge(13, "Refusals are answers, of several the first that a call names"));
        r.due(2, "pupil", 0, 0, 50).due(0, "leave", 2, 60);
        r.refused(Edge.BAD, "send", 2, 2, 49).refused(Edge.BAD, "send", 2, 3, 60).refused(Edge.BAD, "send", 2, 0, 4000);
        for (int i = 0; i < 80; i++) {
            r.due(i, "send", 1, 0, 0);
        }
        r.refused(Edge.FULL, "send", 1, 0, 0).refused(Edge.NOT, "send", 1, 2, 0).refused(Edge.NOT, "send", 2, 0, 60);
        r.refused(Edge.BAD, "send", 1, 3, 0).refused(Edge.BAD, "send", 2, 0, 49).refused(Edge.FULL, "send", 2, 0, 59);
    }

    // ---- promise 14

    private static void answerBad() {
        Run r = ready(c.edge(14, "(NONE: LOST). BAD; CAST: LOST"));
        r.due(0, "send", 0, 0, 0).goes(0, 0, 0, "answer", 0, 3).goes(1, 0, 3999, "answer", 0, 3).due(6, "answer", 0, 3);
        r = ready(c.edge(14, "THINGS 0 .. 79, as they come"));
        r.refused(Edge.BAD, "answer", 0, 3).due(0, "send", 0, 0, 0).goes(0, 0, 0, "answer", 0, 3);
        for (int i = 1; i < 80; i++) {
            r.due(i, "send", 0, 0, 0);
        }
        r.goes(0, 0, 79, "answer", 0, 3).due(6, "answer", 79, 3).due(6, "answer", 0, 3).asked(2, "count", 4);
    }

    private static void answerCast() {
        Run r = ready(c.edge(14, "CAST: LOST"));
        int lost = r.lost(0, 0, 0);
        r.refused(Edge.CAST, "answer", lost, 3999).refused(Edge.CAST, "answer", lost, 0);
        r.due(1, "post", 0, 3, 2).due(2, "send", 0, 0, 0).due(Edge.NONE, "answer", 2, 3)
            .refused(Edge.CAST, "answer", 2, 99);
    }

    private static void answerKinds() {
        Run r = ready(c.edge(14, "NOT: it is no LESSON, no AGAIN, has not come by then, LEFT"));
        int thing = r.answered(0, 0, 0);
        r.refused(Edge.NOT, "answer", thing, 3).refused(Edge.NOT, "answer", thing, 3999);
        r.due(1, "give", thing, 0, 6).refused(Edge.NOT, "answer", thing, 3999);
        r.due(9, "again", thing, 6).due(12, "answer", thing, 9).refused(Edge.NOT, "answer", thing, 3999);
        r.due(1, "give", thing, 0, 12).due(9, "mark", thing, 9, 9, 9, 12).refused(Edge.NOT, "answer", thing, 3999);
    }

    private static void answerComes() {
        Run r = ready(c.edge(14, "ANSWERED is a LESSON (or AGAIN) that has come, on that DAY or later"));
        r.due(0, "send", 0, 0, 10).refused(Edge.NOT, "answer", 0, 12).refused(Edge.NOT, "answer", 0, 0);
        r.due(16, "answer", 0, 13).due(1, "send", 0, 0, 10).due(17, "answer", 1, 14).due(2, "send", 0, 0, 10);
        r.due(4002, "answer", 2, 3999).due(1, "give", 0, 0, 16).due(19, "again", 0, 16);
        r.refused(Edge.NOT, "answer", 0, 18).due(22, "answer", 0, 19);
        r.due(3, "send", 0, 0, 3996).refused(Edge.NOT, "answer", 3, 3998).due(4002, "answer", 3, 3999);
    }

    private static void answerLeft() {
        Run r = ready(c.edge(14, "LEFT is a pupil from a DAY on: nothing is SENT, ANSWERED, paid on that DAY and later ones."));
        r.due(0, "send", 0, 0, 0).due(1, "send", 0, 0, 0).due(2, "send", 1, 0, 0);
        r.due(0, "leave", 0, 10).refused(Edge.NOT, "answer", 0, 10).refused(Edge.NOT, "answer", 0, 11);
        r.refused(Edge.NOT, "answer", 0, 3999).due(12, "answer", 0, 9).due(13, "answer", 2, 10);
        r.due(1, "give", 0, 0, 12).due(16, "again", 0, 13).refused(Edge.NOT, "answer", 0, 16);
    }

    private static void answerLost() {
        Run r = ready(c.edge(14, "A THING is ANSWERED: the DAY on which it comes (NONE: LOST)."));
        r.due(0, "send", 0, 0, 0).due(1, "send", 0, 0, 0).due(1, "post", 0, 60, 2);
        r.due(63, "answer", 0, 3).due(Edge.NONE, "answer", 1, 3).asked(1, "thing", 0, 0).asked(4, "thing", 1, 0);
        r.asked(3, "thing", 1, 4).asked(Edge.NONE, "thing", 1, 5).asked(Edge.NONE, "thing", 1, 6);
    }

    private static void answerOrder() {
        Run r = ready(c.edge(14, "Refusals are answers, of several the first that a call names"));
        int lost = r.lost(0, 0, 0);
        int thing = r.answered(0, 0, 0);
        r.due(0, "leave", 0, 10).refused(Edge.BAD, "answer", lost, 4000).refused(Edge.BAD, "answer", lost, -1);
        r.refused(Edge.CAST, "answer", lost, 10).refused(Edge.BAD, "answer", thing, 4000)
            .refused(Edge.NOT, "answer", thing, 10);
        r.refused(Edge.BAD, "answer", 3, 10);
    }
}
