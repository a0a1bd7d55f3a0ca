/** The boundary cases of payments, of leaving and of moving (promises 36 to 39); the fees' texts are in EdgesTextsTest. */
public final class EdgesFeesTest {
    private static final Edge c = new Edge();

    public static void main(String[] args) {
        payPence();
        payBeginning();
        payLeft();
        payAll();
        dueBad();
        dueParts();
        duePaid();
        leaveBad();
        leaveNot();
        leaveAtMost();
        leaveFirstThatFits();
        leavePaidByThen();
        leaveNothing();
        leftFromADayOn();
        moveBad();
        moveLeft();
        moveInForce();
        moveCounts();
        moveByNames();
        moveFees();
        c.end();
    }

    /** Pupil 0 begins on day 0, pupil 1 on day 100. */
    private static Run ready(Run r) {
        return r.school(1, "a=1/50").due(1, "pupil", 1, 0, 100);
    }

    // ---- promise 36

    private static void payPence() {
        Run r = ready(c.edge(36, "A PUPIL pays (1 .. 99999) on a DAY: all that was paid."));
        r.goes(1, 1, 99999, "pay", 0, 5, 0).goes(0, 0, 1, "pay", 0, 5, 100).refused(Edge.BAD, "pay", 0, 0, 0);
        r.due(1, "pay", 0, 1, 0).due(100000, "pay", 0, 99999, 0).due(100001, "pay", 0, 1, 3999)
            .due(7, "pay", 1, 7, 100);
        r.asked(100001, "who", 0, 6).asked(7, "who", 1, 6);
        c.edge(36, "(a number is not as told, or names nothing)").refused(Edge.BAD, "pay", 0, 1, 0);
    }

    private static void payBeginning() {
        Run r = ready(c.edge(36, "BAD: also ahead of the beginning"));
        r.refused(Edge.BAD, "pay", 1, 5, 99).refused(Edge.BAD, "pay", 1, 5, 0).due(5, "pay", 1, 5, 100)
            .due(10, "pay", 1, 5, 101);
        r.due(5, "pay", 0, 5, 0);
        r = c.edge(36, "BAD: also ahead of the beginning");
        r.edition(0, 0, 0, "a=1/50").due(0, "pupil", 0, 0, 3999).refused(Edge.BAD, "pay", 0, 5, 3998)
            .due(5, "pay", 0, 5, 3999);
    }

    private static void payLeft() {
        Run r = ready(c.edge(36, "LEFT is a pupil from a DAY on: nothing is SENT, ANSWERED, paid on that DAY and later ones."));
        r.due(0, "leave", 1, 110).refused(Edge.NOT, "pay", 1, 5, 110).refused(Edge.NOT, "pay", 1, 5, 111)
            .refused(Edge.NOT, "pay", 1, 5, 3999);
        r.due(5, "pay", 1, 5, 109).due(10, "pay", 1, 5, 100).refused(Edge.BAD, "pay", 1, 5, 99)
            .refused(Edge.BAD, "pay", 1, 0, 110);
        r.refused(Edge.BAD, "pay", 1, 5, 4000).due(5, "pay", 0, 5, 110);
        r = ready(c.edge(36, "NOT: LEFT"));
        r.due(0, "leave", 1, 100).refused(Edge.NOT, "pay", 1, 5, 100).due(0, "leave", 0, 3999).due(5, "pay", 0, 5, 3998)
            .refused(Edge.NOT, "pay", 0, 5, 3999);
    }

    private static void payAll() {
        Run r = ready(c.edge(36, "all that was paid"));
        int sum = 0;
        for (int i = 0; i < 400; i++) {
            sum += 99999;
            r.due(sum, "pay", 0, 99999, 3999 - i);
        }
        r.due(39999600, "who", 0, 6).due(0, "who", 1, 6);
    }

    // ---- promise 37

    private static void dueBad() {
        Run r = c.edge(37, "DUE by a DAY. BAD.");
        r.asked(Edge.BAD, "due", 0, 0);
        ready(r).goes(0, 0, 1, "due", 0, 0).goes(1, 0, 3999, "due", 0, 0).asked(0, "due", 0, 3999);
        r = c.edge(37, "DUE by a DAY. BAD.");
        r.school(12, "a=1/50").fees(1, 0, "p0=1").goes(0, 0, 11, "due", 0, 0);
    }

    private static void dueParts() {
        Run r = ready(c.edge(37, "a part that is due so many DAYS behind the beginning"));
        r.fees(5, 0, "p10=5;p0=1;b0=100;p999=99999;p10=20");
        int[][] by = {{0, 0}, {99, 0}, {100, 1}, {109, 1}, {110, 26}, {1098, 26}, {1099, 100025}, {3999, 100025}};
        for (int[] d : by) {
            r.asked(d[1], "due", 1, d[0]);
        }
        r.asked(1, "due", 0, 0).asked(1, "due", 0, 9).asked(26, "due", 0, 10);
        r.fees(6, 0, "p0=99999;p0=99999;p0=99999;p0=99999;p0=99999;p0=99999").asked(599994, "due", 0, 0)
            .asked(0, "due", 1, 99);
    }

    private static void duePaid() {
        Run r = ready(c.edge(37, "DUE by a DAY: all parts that are due by then, less what was paid by then; not below 0."));
        r.fees(2, 0, "p0=10;p20=10").due(9, "pay", 0, 9, 5).asked(10, "due", 0, 4).asked(1, "due", 0, 5)
            .asked(1, "due", 0, 19).asked(11, "due", 0, 20);
        r.due(10, "pay", 0, 1, 6).asked(1, "due", 0, 5).asked(0, "due", 0, 6).asked(10, "due", 0, 20);
        r.due(21, "pay", 0, 11, 7).asked(0, "due", 0, 7).asked(0, "due", 0, 20).asked(0, "due", 0, 3999)
            .asked(0, "due", 0, 6);
        r.asked(10, "due", 1, 100).asked(20, "due", 1, 120).asked(10, "due", 0, 0);
    }

    // ---- promise 38

    private static void leaveBad() {
        Run r = ready(c.edge(38, "A PUPIL has LEFT from a DAY on: what comes back. BAD: also ahead of the beginning"));
        r.goes(0, 0, 1, "leave", 0, 100).goes(1, 0, 3999, "leave", 0, 0).goes(1, 100, 3999, "leave", 1, 100);
        r.refused(Edge.BAD, "leave", 1, 99).refused(Edge.BAD, "leave", 1, 0).due(0, "leave", 1, 100)
            .asked(100, "who", 1, 5);
        r.due(0, "leave", 0, 0).asked(0, "who", 0, 5);
        c.edge(38, "(a number is not as told, or names nothing)").refused(Edge.BAD, "leave", 0, 0);
    }

    private static void leaveNot() {
        Run r = ready(c.edge(38, "NOT: LEFT"));
        r.fees(1, 0, "b999=100").due(50, "pay", 1, 50, 100).due(50, "leave", 1, 110);
        r.refused(Edge.NOT, "leave", 1, 110).refused(Edge.NOT, "leave", 1, 111).refused(Edge.NOT, "leave", 1, 109)
            .refused(Edge.NOT, "leave", 1, 100);
        r.refused(Edge.BAD, "leave", 1, 99).refused(Edge.BAD, "leave", 1, 4000).asked(110, "who", 1, 5)
            .due(0, "leave", 0, 110);
    }

    private static Run paying(Run r, String fees, int clauses) {
        return ready(r).fees(clauses, 0, fees).due(200, "pay", 1, 200, 100).due(200, "pay", 0, 200, 0);
    }

    private static Run atMost(String fees) {
        return paying(c.edge(38, "who leaves at most so many DAYS behind the beginning has so much back of what was paid"), fees, 1);
    }

    private static void leaveAtMost() {
        int[][] days = {{100, 200}, {109, 200}, {110, 200}, {111, 0}, {3999, 0}};
        for (int[] d : days) {
            atMost("b10=100").due(d[1], "leave", 1, d[0]);
        }
        atMost("b0=50").due(100, "leave", 1, 100).due(100, "leave", 0, 0);
        atMost("b0=50").due(0, "leave", 1, 101).due(0, "leave", 0, 1);
        atMost("b999=1").due(2, "leave", 1, 1099).due(2, "leave", 0, 999);
        atMost("b999=1").due(0, "leave", 1, 1100).due(0, "leave", 0, 1000);
        atMost("b999=0").due(0, "leave", 1, 100);
    }

    private static void leaveFirstThatFits() {
        String fees = "p0=9;b5=90;b20=50;b10=70;b30=0;b40=20";
        int[][] days = {{100, 180}, {105, 180}, {106, 100}, {110, 100}, {120, 100}, {121, 0}, {130, 0}, {131, 40}, {140, 40}, {141, 0}};
        for (int[] d : days) {
            paying(c.edge(38, "(the first such CLAUSE that fits; none: 0; of what was paid by that DAY, by 100)"), fees, 6).due(d[1], "leave", 1, d[0]);
        }
        paying(c.edge(38, "none: 0"), "p0=9", 1).due(0, "leave", 1, 100);
        ready(c.edge(38, "none: 0")).due(9, "pay", 0, 9, 0).due(0, "leave", 0, 0);
    }

    private static void leavePaidByThen() {
        int[][] days = {{100, 0}, {101, 100}, {102, 100}, {103, 300}, {104, 300}};
        for (int[] d : days) {
            Run r = ready(c.edge(38, "of what was paid by that DAY, by 100")).fees(1, 0, "b99=100");
            r.due(200, "pay", 1, 200, 103).due(300, "pay", 1, 100, 101).due(d[1], "leave", 1, d[0])
                .asked(300, "who", 1, 6);
        }
        Run r = ready(c.edge(38, "of what was paid by that DAY, by 100")).fees(1, 0, "b99=99");
        for (int i = 0; i < 400; i++) {
            r.does("pay", 0, 99999, 0);
        }
        r.due(39599604, "leave", 0, 0);
    }

    private static void leaveNothing() {
        Run r = ready(c.edge(38, "what comes back"));
        r.fees(1, 0, "b99=100").due(0, "leave", 0, 0).due(0, "leave", 1, 100).asked(0, "who", 0, 5)
            .asked(100, "who", 1, 5);
    }

    private static void leftFromADayOn() {
        Run r = ready(c.edge(38, "LEFT is a pupil from a DAY on"));
        r.tutors(1, 9).due(0, "send", 1, 0, 100).due(0, "leave", 1, 110).due(112, "answer", 0, 109)
            .due(1, "give", 0, 0, 112);
        r.due(40, "mark", 0, 40, 40, 40, 112).asked(40, "best", 1, 0, 3999).asked(115, "marks", 0, 3);
        r.due(1, "send", 1, 0, 109).refused(Edge.NOT, "send", 1, 0, 110).due(5, "habit", 1, 9).due(5, "pay", 1, 5, 109);
    }

    // ---- promise 39

    private static void moveBad() {
        Run r = c.edge(39, "A PUPIL is MOVED: how many LESSONS of the new EDITION are PASSED. BAD");
        r.refused(Edge.BAD, "move", 0, 0, 0);
        ready(r).edition(0, 1, 0, "b=1/50").edition(0, 2, 0, "c=1/50").edition(0, 3, 0, "d=1/50");
        r.goes(0, 0, 1, "move", 0, 1, 100).goes(1, 0, 3, "move", 0, 0, 0).goes(2, 0, 3999, "move", 0, 1, 0);
        r.due(0, "move", 0, 3, 0).asked(3, "who", 0, 1).asked(8, "may", 0, 0).due(0, "move", 0, 0, 3999)
            .asked(0, "who", 0, 1);
    }

    private static void moveLeft() {
        Run r = ready(c.edge(39, "NOT: LEFT, or no EDITION is in force then"));
        r.edition(0, 1, 0, "b=1/50").due(0, "leave", 0, 50);
        r.refused(Edge.NOT, "move", 0, 1, 50).refused(Edge.NOT, "move", 0, 1, 51).refused(Edge.NOT, "move", 0, 1, 3999)
            .refused(Edge.NOT, "move", 0, 2, 50);
        r.refused(Edge.BAD, "move", 0, 4, 50).refused(Edge.BAD, "move", 0, 1, 4000).due(0, "move", 0, 1, 49)
            .due(0, "move", 1, 1, 50);
    }

    private static void moveInForce() {
        Run r = ready(c.edge(39, "MOVED is a pupil to another COURSE (or EDITION) on a DAY: by the EDITION in force then"));
        r.refused(Edge.NOT, "move", 0, 1, 3999).edition(0, 1, 10, "b=1/50").edition(1, 1, 20, "c=1/50")
            .edition(2, 1, 20, "d=1/50").edition(1, 0, 30, "e=1/50");
        r.refused(Edge.NOT, "move", 0, 1, 9).refused(Edge.NOT, "move", 0, 1, 0).asked(0, "who", 0, 1)
            .asked(0, "who", 0, 2);
        int[][] days = {{10, 0}, {19, 0}, {20, 2}, {3999, 2}};
        for (int[] d : days) {
            r.due(0, "move", 0, 1, d[0]).asked(1, "who", 0, 1).asked(d[1], "who", 0, 2).asked(2 << d[1], "may", 0, 0);
        }
        r.due(0, "move", 0, 0, 29).asked(0, "who", 0, 2).due(0, "move", 0, 0, 30).asked(1, "who", 0, 2)
            .asked(16, "may", 0, 0);
    }

    private static void moveCounts() {
        Run r = c.edge(39, "how many LESSONS of the new EDITION are PASSED");
        r.school(1, "a=1/50").tutors(1, 9).edition(0, 1, 0, "a=1/0;b=1/1;c=1/2;d=1/3;e=1/4;f=1/5;g=1/6;h=1/60")
            .edition(0, 2, 0, "a=1/61;b=2/0");
        r.due(0, "move", 0, 1, 0).due(0, "move", 0, 0, 0).marked(0, 0, 0, 0, 60);
        r.due(8, "move", 0, 1, 0).asked(255, "may", 0, 1).due(0, "move", 0, 2, 0).asked(3, "may", 0, 0)
            .due(1, "move", 0, 0, 0);
    }

    private static void moveByNames() {
        Run r = c.edge(39, "what is MARKED counts by NAMES");
        r.school(1, "a=1/50;b=2/50").tutors(1, 9).edition(0, 1, 0, "b=1/40;a=3/0;c=2/50:b").marked(0, 0, 0, 0, 40);
        r.due(1, "move", 0, 1, 0).asked(2, "may", 0, 1).asked(5, "may", 0, 0).asked(40, "best", 0, 1, 3999)
            .asked(Edge.NONE, "best", 0, 0, 3999);
        r.asked(0, "thing", 0, 3).asked(1, "thing", 0, 2).due(0, "move", 0, 0, 0).asked(3, "may", 0, 0);
    }

    private static void moveFees() {
        Run r = ready(c.edge(39, "A PUPIL is MOVED"));
        r.edition(0, 1, 0, "b=1/50").fees(1, 0, "p0=5").fees(2, 1, "p10=7;b10=100").due(3, "pay", 1, 3, 100);
        r.asked(2, "due", 1, 110).due(0, "move", 1, 1, 3999).asked(100, "who", 1, 3).asked(0, "due", 1, 109)
            .asked(4, "due", 1, 110);
        r.asked(3, "who", 1, 6).asked(5, "who", 1, 4).asked(1, "who", 1, 0).due(3, "leave", 1, 110);
    }
}
