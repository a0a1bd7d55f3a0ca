/** Promises 35 to 39: fees, payments, leaving, moving. */
public final class FeesTest {
    private static final int MIN = Integer.MIN_VALUE;
    private static final int MAX = Integer.MAX_VALUE;
    private static final Check c = new Check();

    public static void main(String[] args) {
        fees();
        feesFaults();
        pay();
        due();
        leave();
        leaveWithMuch();
        payOnAndOn();
        move();
        moveByNames();
        c.end();
    }

    private static void fees() {
        c.about("promise 35");
        LetterSchool x = Check.school("a=1/50", 1);
        Check.type(x, "p0=7");
        c.due("course -1", x.fees(-1), LetterSchool.BAD);
        c.due("course 4", x.fees(4), LetterSchool.BAD);
        c.due("course least", x.fees(MIN), LetterSchool.BAD);
        c.due("the tape stayed", x.type(' ', 1), 5);
        c.due("one clause", x.fees(0), 1);
        c.due("the tape is empty then", x.type(' ', 1), 1);
        c.due("due", x.due(0, 0), 7);
        c.due("six clauses", Check.fees(x, 0, "p1=1;p2=20;b5=50;p3=300;b9=10;p 999 = 99999 "), 6);
        c.due("others are gone", x.due(0, 0), 0);
        c.due("three parts", x.due(0, 3), 321);
        c.due("all parts", x.due(0, 999), 100320);
        c.due("a fault", Check.fees(x, 0, "p0=1;p"), -26);
        c.due("fees stay", x.due(0, 3), 321);
        c.due("a fault empties the tape", x.type(' ', 1), 1);
        c.due("fees of another course", Check.fees(x, 3, "p0=5"), 1);
        c.due("fees stay by others", x.due(0, 3), 321);
        c.due("fees once more", Check.fees(x, 0, "b0=0"), 1);
        c.due("no parts", x.due(0, 999), 0);
    }

    private static void fault(String text, int place) {
        LetterSchool x = new LetterSchool();
        c.due("'" + text + "'", Check.fees(x, 1, text), -20 - place);
        c.due("the tape behind '" + text + "'", x.type('a', 1), 1);
    }

    private static void feesFaults() {
        c.about("promise 35, faults");
        fault("", 0);
        fault("  ", 2);
        fault("a", 0);
        fault("P1=1", 0);
        fault(" p", 2);
        fault("p=1", 1);
        fault("p1000=1", 1);
        fault("p 1000=1", 2);
        fault("p1 0=1", 3);
        fault("p1", 2);
        fault("p1/1", 2);
        fault("p1=", 3);
        fault("p1=100000", 3);
        fault("p1=b", 3);
        fault("p1=4294967297", 3);
        fault("b1=101", 3);
        fault("b 1000=1", 2);
        fault("b1=100;", 7);
        fault("b1=100 p", 7);
        fault("b1=100;;", 7);
        fault("p1=1;p1=1;p1=1;p1=1;p1=1;p1=1;", 29);
        fault("p1=1;p1=1;p1=1;p1=1;p1=1;p1=1 ;p1=1", 30);
        fault("a=1/5", 0);
    }

    private static void pay() {
        c.about("promise 36");
        LetterSchool x = Check.school("a=1/50", 1);
        x.pupil(0, 0, 10);
        int[][] bads = {{-1, 1, 10}, {2, 1, 10}, {1, 0, 10}, {1, -1, 10}, {1, 100000, 10}, {1, 1, -1}, {1, 1, 4000},
            {1, 1, 9}, {MIN, 1, 10}, {1, MIN, 10}, {1, MAX, 10}};
        for (int[] b : bads) {
            c.due("bad", x.pay(b[0], b[1], b[2]), LetterSchool.BAD);
        }
        c.due("first", x.pay(1, 1, 10), 1);
        c.due("later", x.pay(1, 99999, 3999), 100000);
        c.due("ahead of that", x.pay(1, 10, 20), 100010);
        c.due("another", x.pay(0, 3, 0), 3);
        x.leave(1, 50);
        c.due("the day ahead of leaving", x.pay(1, 1, 49), 100011);
        c.due("on that day", x.pay(1, 1, 50), LetterSchool.NOT);
        c.due("later still", x.pay(1, 1, 3999), LetterSchool.NOT);
        c.due("bad ahead of not", x.pay(1, 0, 3999), LetterSchool.BAD);
        c.due("all", x.who(1, 6), 100011);
    }

    private static void due() {
        c.about("promise 37");
        LetterSchool x = Check.school("a=1/50", 1);
        x.pupil(0, 0, 100);
        c.due("no fees", x.due(1, 3999), 0);
        Check.fees(x, 0, "p0=100;b0=100;p30=50;p30=7");
        c.due("ahead of the beginning", x.due(1, 99), 0);
        c.due("at the beginning", x.due(1, 100), 100);
        c.due("the day ahead", x.due(1, 129), 100);
        c.due("on the day", x.due(1, 130), 157);
        x.pay(1, 120, 110);
        c.due("ahead of paying", x.due(1, 109), 100);
        c.due("not below 0", x.due(1, 110), 0);
        c.due("what was paid counts later", x.due(1, 130), 37);
        x.pay(1, 7, 131);
        c.due("not yet paid", x.due(1, 130), 37);
        c.due("paid", x.due(1, 131), 30);
        c.due("the other's", x.due(0, 30), 157);
        int[][] bads = {{-1, 0}, {2, 0}, {0, -1}, {0, 4000}, {MAX, 0}, {0, MIN}};
        for (int[] b : bads) {
            c.due("bad", x.due(b[0], b[1]), LetterSchool.BAD);
        }
    }

    private static LetterSchool leaving(String fees) {
        LetterSchool x = Check.school("a=1/50", 1);
        Check.fees(x, 0, fees);
        x.pupil(0, 0, 10);
        x.pay(1, 199, 12);
        x.pay(1, 1000, 30);
        return x;
    }

    private static void leave() {
        c.about("promise 38");
        String fees = "b5=90;p3=5;b20=50;b19=77;b100=1";
        LetterSchool x = leaving(fees);
        int[][] bads = {{-1, 20}, {2, 20}, {1, 9}, {1, -1}, {1, 4000}, {MIN, 20}};
        for (int[] b : bads) {
            c.due("bad", x.leave(b[0], b[1]), LetterSchool.BAD);
        }
        c.due("not left", x.who(1, 5), LetterSchool.NONE);
        c.due("what was paid by then", x.leave(1, 15), 199 * 90 / 100);
        c.due("left", x.who(1, 5), 15);
        c.due("left already", x.leave(1, 15), LetterSchool.NOT);
        c.due("left already, later", x.leave(1, 16), LetterSchool.NOT);
        c.due("left already, ahead", x.leave(1, 14), LetterSchool.NOT);
        c.due("bad ahead of not", x.leave(1, 9), LetterSchool.BAD);
        c.due("the next clause", leaving(fees).leave(1, 16), 199 / 2);
        c.due("the first that fits", leaving(fees).leave(1, 29), 199 / 2);
        c.due("the last day of that, paid that day", leaving(fees).leave(1, 30), 1199 / 2);
        c.due("the last clause", leaving(fees).leave(1, 31), 11);
        c.due("none fits", leaving(fees).leave(1, 111), 0);
        c.due("no clause", leaving("p0=1").leave(1, 30), 0);
        c.due("no fees", leaving("").leave(1, 30), 0);
        c.due("at the beginning nothing is paid", leaving(fees).leave(1, 10), 0);
        c.due("all", leaving("b999=100").leave(1, 1009), 1199);
        c.due("a day later", leaving("b999=100").leave(1, 1010), 0);
        c.due("what is due stays", x.due(1, 13), 0);
    }

    private static void leaveWithMuch() {
        c.about("promise 38, beyond an int");
        LetterSchool x = Check.school("a=1/50", 1);
        Check.fees(x, 0, "b9=99");
        for (int i = 0; i < 400; i++) {
            x.pay(0, 99999, 0);
        }
        c.due("much", x.leave(0, 0), 39999600L * 99 / 100);
    }

    /** What is answered behind call 512 is free, but each call must answer. */
    private static void payOnAndOn() {
        c.about("promise 36, on and on");
        LetterSchool x = Check.school("a=1/50", 1);
        for (int i = 1; i <= 509; i++) {
            c.due("pay " + i, x.pay(0, 1, 0), i);
        }
        for (int i = 0; i < 1000; i++) {
            x.pay(0, 1, 0);
        }
        c.holds("who answers", x.who(0, 6) > 0);
    }

    private static void move() {
        c.about("promise 39");
        LetterSchool x = Check.school("a=1/50", 2);
        c.due("no edition", x.move(0, 1, 9), LetterSchool.NOT);
        Check.edition(x, 1, 5, "b=2/50");
        Check.edition(x, 1, 8, "c=2/50");
        Check.edition(x, 0, 20, "d=3/50");
        int[][] bads = {{-1, 0, 9}, {2, 0, 9}, {0, -1, 9}, {0, 4, 9}, {0, 0, -1}, {0, 0, 4000}, {MIN, 0, 9}, {0, MAX, 9}};
        for (int[] b : bads) {
            c.due("bad", x.move(b[0], b[1], b[2]), LetterSchool.BAD);
        }
        c.due("none in force yet", x.move(0, 1, 4), LetterSchool.NOT);
        c.due("it stayed", x.may(0, 0), 1);
        c.due("moved", x.move(0, 1, 7), 0);
        c.due("course", x.who(0, 1), 1);
        c.due("edition", x.who(0, 2), 0);
        c.due("the beginning stays", x.who(0, 3), 0);
        c.due("lessons", x.may(0, 0), 2);
        c.due("to the later edition", x.move(0, 1, 8), 0);
        c.due("its lessons", x.may(0, 0), 4);
        c.due("to an edition of the first course", x.move(0, 0, 20), 0);
        c.due("its edition", x.who(0, 2), 1);
        c.due("the other pupil's", x.who(1, 2), 0);
        c.due("another course's fees", Check.fees(x, 1, "p5=30"), 1);
        c.due("not due", x.due(0, 9), 0);
        x.move(0, 1, 9);
        c.due("due from the beginning on", x.due(0, 5), 30);
        x.leave(0, 30);
        c.due("left", x.move(0, 0, 30), LetterSchool.NOT);
        c.due("left later", x.move(0, 0, 31), LetterSchool.NOT);
        c.due("left and none in force", x.move(0, 2, 31), LetterSchool.NOT);
        c.due("bad ahead of left", x.move(0, 4, 31), LetterSchool.BAD);
    }

    private static void moveByNames() {
        c.about("promise 39, names");
        LetterSchool x = Check.school("a=1/50;b=2/50", 1);
        Check.edition(x, 2, 0, "a=2/50;b=1/60;c=1/70;d=5/0:c;e=6/0:a");
        x.tutor(15, 9);
        int sent = x.send(0, 1, 0);
        Check.marked(x, 0, 0, 0, 0, 65);
        c.due("one of the new lessons is passed by its name", x.move(0, 2, 0), 1);
        c.due("which", x.may(0, 1), 2);
        c.due("best by name", x.best(0, 2, 3999), 65);
        c.due("what was sent ahead keeps its letter", x.thing(sent, 3), 1);
        x.answer(sent, 3);
        x.give(sent, 0, 6);
        x.mark(sent, 50, 50, 50, 6);
        c.due("and counts by its name", x.may(0, 1), 3);
        c.due("what leans on it", x.may(0, 0), 20);
        c.due("back", x.move(0, 0, 0), 2);
    }
}
