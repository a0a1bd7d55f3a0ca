/** The boundary cases of keys, choices, likeness and doubt (promises 30 to 34). */
public final class EdgesCopiesTest {
    private static final Edge c = new Edge();

    public static void main(String[] args) {
        key();
        keyAtFirst();
        choose();
        chooseBad();
        chooseCast();
        chooseStays();
        likeBad();
        likeCast();
        likeNot();
        likeOrder();
        likePlaces();
        limit();
        doubtedBad();
        doubtedMore();
        doubtedFirst();
        doubtedKinds();
        doubtedFewer();
        doubtedLesserIsNone();
        doubtedAll();
        c.end();
    }

    private static Run ready(Run r) {
        return r.school(3, "a=1/50;b=39/50;c=1/60").tutors(1, 9);
    }

    /** A pupil's answer to a lesson with the same choice at so many places, from the first on. */
    private static int choosing(Run r, int pupil, int lesson, int places, int choice) {
        int thing = r.answered(pupil, lesson, 0);
        for (int at = 0; at < places; at++) {
            r.does("choose", thing, at, choice);
        }
        return thing;
    }

    // ---- promises 30, 31

    private static void key() {
        Run r = c.edge(30, "KEYS: of each NAME a row of 20 choices 0 .. 4 (0 at first).");
        r.goes(0, 0, 39, "key", 0, 0, 1).goes(1, 0, 19, "key", 39, 0, 4).goes(2, 0, 4, "key", 39, 19, 0);
        r.due(0, "key", 0, 0, 4).due(0, "key", 39, 19, 3).due(0, "key", 39, 0, 2).due(0, "key", 0, 19, 1);
        r.goes(0, 0, 39, "key", 0, 0, 1).goes(1, 0, 19, "key", 39, 0, 1).goes(2, 0, 4, "key", 0, 0, 0);
        r.due(4, "key", 0, 0, 0).due(3, "key", 39, 19, 0).due(2, "key", 39, 0, 0).due(1, "key", 0, 19, 0);
    }

    private static void keyAtFirst() {
        for (int part = 0; part < 4; part++) {
            Run r = c.edge(30, "A KEY's choice at a place 0 .. 19: what it was. BAD.");
            for (int name = 10 * part; name < 10 * part + 10; name++) {
                for (int at = 0; at < 20; at++) {
                    r.due(0, "key", name, at, (name + at) % 5);
                }
            }
            for (int name = 10 * part; name < 10 * part + 10; name++) {
                for (int at = 0; at < 20; at += 1 + name % 2) {
                    r.due((name + at) % 5, "key", name, at, 0);
                }
            }
        }
    }

    private static void choose() {
        Run r = ready(c.edge(31, "CHOICES of an ANSWER (MARKED, AGAIN ones, too) are such a row (0 at first; they stay as it is ANSWERED again)."));
        r.refused(Edge.BAD, "choose", 0, 0, 0).answered(0, 0, 0);
        r.goes(0, 0, 0, "choose", 0, 0, 1).goes(1, 0, 19, "choose", 0, 0, 4).goes(2, 0, 4, "choose", 0, 19, 0);
        for (int at = 0; at < 20; at++) {
            r.due(0, "choose", 0, at, at % 5);
        }
        r.goes(1, 0, 19, "choose", 0, 0, 3).goes(2, 0, 4, "choose", 0, 4, 0);
        for (int at = 0; at < 20; at++) {
            r.due(at % 5, "choose", 0, at, 4 - at % 5);
        }
        r.answered(1, 0, 0);
        r.goes(0, 0, 1, "choose", 0, 0, 1).due(0, "choose", 1, 0, 1).due(4, "choose", 0, 0, 0);
    }

    private static void chooseBad() {
        Run r = ready(c.edge(31, "A choice of an ANSWER: what it was. BAD"));
        int thing = choosing(r, 0, 0, 20, 4);
        r.refused(Edge.BAD, "choose", thing, 20, 1).refused(Edge.BAD, "choose", thing, -1, 1)
            .refused(Edge.BAD, "choose", thing, 0, 5);
        r.refused(Edge.BAD, "choose", thing, 0, -1).refused(Edge.BAD, "choose", 1, 0, 1)
            .refused(Edge.BAD, "choose", -1, 0, 1);
        r.due(4, "choose", thing, 0, 0).due(4, "choose", thing, 19, 0);
    }

    private static void chooseCast() {
        Run r = ready(c.edge(31, "CAST: no ANSWER (MARKED, AGAIN ones are)"));
        r.lost(0, 0, 0);
        r.refused(Edge.CAST, "choose", 0, 0, 1).refused(Edge.CAST, "choose", 1, 0, 1);
        r.refused(Edge.BAD, "choose", 0, 20, 1).refused(Edge.BAD, "choose", 1, 0, 5)
            .refused(Edge.BAD, "choose", 1, -1, 0).refused(Edge.BAD, "choose", 2, 0, 0);
        r.again(0, 0, 0, 0);
        r.marked(0, 0, 0, 0, 9);
        r.given(0, 0, 0, 0);
        for (int thing = 2; thing < 5; thing++) {
            r.due(0, "choose", thing, 0, 1).due(1, "choose", thing, 0, 4).due(0, "choose", thing, 19, 4);
        }
    }

    private static void chooseStays() {
        Run r = ready(c.edge(31, "they stay as it is ANSWERED again"));
        r.given(0, 0, 0, 0);
        r.due(0, "choose", 0, 0, 4).due(0, "choose", 0, 19, 3).due(9, "again", 0, 6).due(4, "choose", 0, 0, 4)
            .due(3, "choose", 0, 19, 3);
        r.due(12, "answer", 0, 9).due(4, "choose", 0, 0, 4).due(3, "choose", 0, 19, 3).due(1, "give", 0, 0, 12);
        r.due(4, "choose", 0, 0, 4).due(5, "mark", 0, 5, 5, 5, 12).due(4, "choose", 0, 0, 0).due(3, "choose", 0, 19, 0);
    }

    // ---- promise 32

    private static void likeBad() {
        Run r = ready(c.edge(32, "At how many places two are LIKE. BAD: also one"));
        r.asked(Edge.BAD, "like", 0, 1).answered(0, 0, 0);
        r.asked(Edge.BAD, "like", 0, 0).asked(Edge.BAD, "like", 0, 1).answered(1, 0, 0);
        r.goes(0, 0, 0, "like", 0, 1).goes(1, 1, 1, "like", 0, 1).asked(Edge.BAD, "like", 1, 1).asked(0, "like", 1, 0);
        r = ready(c.edge(32, "At how many places two are LIKE. BAD: also one"));
        r.lost(0, 0, 0);
        r.asked(Edge.BAD, "like", 0, 0).asked(Edge.BAD, "like", 1, 1);
        for (int i = 2; i < 80; i++) {
            r.does("send", 0, 0, 0);
        }
        r.goes(0, 1, 79, "like", 0, 0).asked(Edge.BAD, "like", 80, 0).asked(Edge.BAD, "like", 0, 80);
    }

    private static void likeCast() {
        Run r = ready(c.edge(32, "CAST; NOT: of unlike NAMES, or of one pupil."));
        r.lost(0, 0, 0);
        int answer = r.answered(1, 0, 0);
        for (int i = 0; i < 2; i++) {
            r.asked(Edge.CAST, "like", i, answer).asked(Edge.CAST, "like", answer, i)
                .asked(Edge.CAST, "like", i, 1 - i);
        }
        r.again(0, 0, 0, 0);
        r.marked(2, 0, 0, 0, 9);
        r.asked(0, "like", 2, 3).asked(0, "like", 3, 4).asked(0, "like", 4, 2);
    }

    private static void likeNot() {
        Run r = ready(c.edge(32, "NOT: of unlike NAMES, or of one pupil"));
        choosing(r, 0, 0, 20, 1);
        choosing(r, 1, 1, 20, 1);
        choosing(r, 0, 0, 20, 1);
        choosing(r, 1, 2, 20, 1);
        choosing(r, 0, 1, 20, 1);
        r.asked(Edge.NOT, "like", 0, 1).asked(Edge.NOT, "like", 0, 2).asked(20, "like", 0, 3)
            .asked(Edge.NOT, "like", 0, 4);
        r.asked(20, "like", 1, 4).asked(20, "like", 3, 2).asked(Edge.NOT, "like", 1, 3);
    }

    private static void likeOrder() {
        Run r = ready(c.edge(32, "Refusals are answers, of several the first that a call names"));
        r.lost(0, 0, 0);
        int answer = r.answered(0, 1, 0);
        r.asked(Edge.BAD, "like", 0, 3).asked(Edge.BAD, "like", -1, 1).asked(Edge.BAD, "like", answer, answer);
        r.asked(Edge.CAST, "like", 0, answer).asked(Edge.CAST, "like", answer, 1);
    }

    private static void likePlaces() {
        Run r = ready(c.edge(32, "LIKE two of one NAME of two pupils: at how many places they are the same, and not as the KEY."));
        r.answered(0, 0, 0);
        r.answered(1, 0, 0);
        r.asked(0, "like", 0, 1).due(0, "key", 1, 0, 4).asked(1, "like", 0, 1).due(0, "key", 1, 19, 4)
            .asked(2, "like", 0, 1);
        r.due(0, "choose", 0, 0, 4).asked(1, "like", 0, 1).due(0, "choose", 1, 0, 4).asked(1, "like", 0, 1)
            .due(4, "key", 1, 0, 3).asked(2, "like", 0, 1);
        r.due(0, "key", 2, 1, 4).due(0, "key", 0, 1, 4).asked(2, "like", 0, 1);
        for (int at = 0; at < 20; at++) {
            r.does("key", 1, at, 2);
        }
        r.asked(20, "like", 0, 1).asked(20, "like", 1, 0).due(0, "choose", 1, 5, 1).asked(19, "like", 0, 1)
            .due(0, "choose", 0, 5, 1).asked(20, "like", 0, 1);
        r.due(1, "choose", 0, 5, 4).asked(19, "like", 0, 1).asked(19, "like", 1, 0).due(1, "choose", 1, 5, 2)
            .asked(19, "like", 0, 1);
        r.due(4, "choose", 0, 5, 2).asked(19, "like", 0, 1).asked(19, "like", 1, 0);
    }

    // ---- promises 33, 34

    private static void limit() {
        Run r = c.edge(33, "DOUBTED are pairs LIKE at more than LIMIT places (0 .. 19; 5 at first)");
        r.goes(0, 0, 19, "limit", 3).due(5, "limit", 0).due(0, "limit", 19).goes(0, 0, 19, "limit", 3)
            .due(19, "limit", 5);
        r = c.edge(33, "LIMIT: what it was. BAD.");
        r.refused(Edge.BAD, "limit", 20).refused(Edge.BAD, "limit", -1).due(5, "limit", 5);
    }

    private static void doubtedBad() {
        Run r = c.edge(34, "BAD (i below 0); NONE.");
        r.asked(Edge.BAD, "doubted", -1).asked(Edge.BAD, "doubted", Edge.MIN).asked(Edge.NONE, "doubted", 0)
            .asked(Edge.NONE, "doubted", Edge.MAX);
        ready(r);
        choosing(r, 0, 0, 6, 1);
        choosing(r, 1, 0, 6, 1);
        r.asked(1, "doubted", 0).asked(Edge.NONE, "doubted", 1).asked(Edge.NONE, "doubted", Edge.MAX)
            .asked(Edge.BAD, "doubted", -1);
    }

    private static void doubtedMore() {
        Run r = ready(c.edge(34, "DOUBTED are pairs LIKE at more than LIMIT places (0 .. 19; 5 at first)"));
        choosing(r, 0, 0, 5, 1);
        choosing(r, 1, 0, 20, 1);
        r.asked(5, "like", 0, 1).asked(Edge.NONE, "doubted", 0).due(0, "choose", 0, 5, 1).asked(6, "like", 0, 1)
            .asked(1, "doubted", 0);
        r.due(5, "limit", 6).asked(Edge.NONE, "doubted", 0).due(6, "limit", 19);
        for (int at = 6; at < 19; at++) {
            r.does("choose", 0, at, 1);
        }
        r.asked(19, "like", 0, 1).asked(Edge.NONE, "doubted", 0).due(0, "choose", 0, 19, 1).asked(1, "doubted", 0);
        r = ready(c.edge(34, "DOUBTED are pairs LIKE at more than LIMIT places (0 .. 19; 5 at first)"));
        r.due(5, "limit", 0).answered(0, 0, 0);
        r.answered(1, 0, 0);
        r.asked(0, "like", 0, 1).asked(Edge.NONE, "doubted", 0).due(0, "key", 1, 0, 1).asked(1, "like", 0, 1)
            .asked(1, "doubted", 0);
    }

    private static void doubtedFirst() {
        Run r = ready(c.edge(34, "The i-th pair that is DOUBTED: 80 times the lesser, and the other one."));
        int[][] all = {{0, 0}, {1, 0}, {0, 0}, {2, 0}, {1, 1}, {2, 2}, {0, 1}};
        for (int[] one : all) {
            choosing(r, one[0], one[1], 6, 1);
        }
        int[] want = {1, 3, 5, 82, 83, 85, 163, 165, 326};
        for (int i = 0; i < want.length; i++) {
            r.asked(want[i], "doubted", i);
        }
        r.asked(Edge.NONE, "doubted", want.length).due(0, "key", 1, 0, 1).asked(326, "doubted", 0)
            .asked(Edge.NONE, "doubted", 1);
    }

    private static void doubtedKinds() {
        Run r = ready(c.edge(34, "CHOICES of an ANSWER (MARKED, AGAIN ones, too)"));
        for (int pupil = 0; pupil < 3; pupil++) {
            choosing(r, pupil, 0, 6, 1);
        }
        r.due(1, "give", 0, 0, 6).due(9, "mark", 0, 9, 9, 9, 6).asked(1, "doubted", 0).asked(2, "doubted", 1)
            .asked(82, "doubted", 2);
        r.due(1, "give", 1, 0, 6).due(9, "again", 1, 6).asked(1, "doubted", 0).asked(2, "doubted", 1)
            .asked(82, "doubted", 2);
        r.due(1, "give", 2, 0, 6).due(1, "post", 2, 3, 2).due(3, "send", 2, 0, 6).due(Edge.NONE, "again", 2, 6);
        r.asked(1, "doubted", 0).asked(Edge.NONE, "doubted", 1);
        r.due(4, "send", 0, 0, 0).due(5, "send", 1, 0, 0).due(5, "limit", 0).due(0, "key", 1, 19, 4)
            .asked(1, "doubted", 0).asked(Edge.NONE, "doubted", 1);
    }

    private static void doubtedFewer() {
        Run r = ready(c.edge(34, "DOUBTED are pairs LIKE at more than LIMIT places (0 .. 19; 5 at first), the first by numbers."));
        choosing(r, 0, 0, 4, 1);
        choosing(r, 1, 0, 4, 1);
        r.asked(4, "like", 0, 1).asked(Edge.NONE, "doubted", 0).due(5, "limit", 4).asked(Edge.NONE, "doubted", 0)
            .due(4, "limit", 3).asked(1, "doubted", 0);
    }

    private static void doubtedLesserIsNone() {
        Run r = ready(c.edge(34, "CHOICES of an ANSWER (MARKED, AGAIN ones, too) are such a row"));
        r.lost(0, 0, 0);
        r.answered(1, 0, 0);
        r.due(5, "limit", 0).due(0, "key", 1, 0, 1).asked(Edge.NONE, "doubted", 0).answered(0, 0, 0);
        r.asked(2 * 80 + 3, "doubted", 0).asked(Edge.NONE, "doubted", 1);
    }

    private static void doubtedAll() {
        Run r = c.edge(34, "80 times the lesser, and the other one");
        r.school(2, "a=1/50");
        for (int i = 0; i < 80; i++) {
            r.does("send", i == 78 ? 0 : 1, 0, 0);
            r.does("answer", i, 3);
        }
        r.due(5, "limit", 0).due(0, "key", 1, 0, 1).asked(78, "doubted", 0).asked(77 * 80 + 78, "doubted", 77)
            .asked(78 * 80 + 79, "doubted", 78);
        r.asked(Edge.NONE, "doubted", 79);
    }
}
