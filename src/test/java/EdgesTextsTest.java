/** The boundary cases of the tape and of the texts that are read from it (promises 2, 3 and 35). */
public final class EdgesTextsTest {
    private static final Edge c = new Edge();

    public static void main(String[] args) {
        typeHowMany();
        typeHighestFirst();
        typeBytes();
        typeFull();
        editionCourses();
        editionAfterTheOneAhead();
        editionTape();
        editionBadTape();
        editionFull();
        editionBehindFaults();
        editionOrder();
        clauses();
        letters();
        names();
        passes();
        casesAndClaims();
        denied();
        above();
        open();
        toldNowhere();
        faultPlaces();
        blanks();
        numbersBeyond();
        feesCourses();
        feesTape();
        feesFault();
        feesClauses();
        feesNumbers();
        feesBack();
        feesPlaces();
        c.end();
    }

    // ---- promise 2

    private static void typeHowMany() {
        Run r = c.edge(2, "The n lowest bytes (1 .. 8) of w");
        r.goes(1, 1, 8, "type", Check.word("a=1/50:a"), 0);
        r.due(1, "type", Check.word("a=1/50:a"), 1);
        r.due(9, "type", Check.word("=1/50:a "), 8);
        r.due(0, "edition", 0, 0);
        r.due(1, "type", -1L << 8 | ' ', 1);
        r.due(8, "type", 0xff20202020202020L, 7);
    }

    private static void typeHighestFirst() {
        Run r = c.edge(2, "of these the highest first, come behind THE TAPE: how many it has");
        r.due(8, "type", Check.word("a=12/34;"), 8).due(13, "type", Check.word("b=5/6"), 5).due(0, "edition", 0, 0);
        r.asked(12, "lesson", 0, 0, 0, 0).asked(34, "lesson", 0, 0, 0, 1).asked(5, "lesson", 0, 0, 1, 0);
    }

    private static void typeBytes() {
        Run r = c.edge(2, "BAD: n, a byte not 32 .. 126");
        r.types("a=1");
        for (int at = 0; at < 8; at++) {
            long others = Check.word("        ") & ~(255L << 8 * at);
            for (long bad : new long[] {0, 10, 31, 127, 128, 255}) {
                r.refused(Edge.BAD, "type", others | bad << 8 * at, 8);
                r.refused(Edge.BAD, "type", others | bad << 8 * at, at + 1);
            }
        }
        r.due(4, "type", 32, 1).due(5, "type", 126, 1);
        r.due(13, "type", Check.word(" ~ ~ ~ ~"), 8);
    }

    private static void typeFull() {
        Run r = c.edge(2, "FULL: 120");
        r.types("a=1/50".repeat(18) + "    ");
        r.due(113, "type", ' ', 1);
        r.refused(Edge.FULL, "type", Check.word("        "), 8);
        r.due(119, "type", Check.word("      "), 6);
        r.refused(Edge.FULL, "type", Check.word("  "), 2);
        r.due(120, "type", 'b', 1);
        for (int n = 1; n <= 8; n++) {
            r.refused(Edge.FULL, "type", Check.word("        "), n);
        }
        r.refused(Edge.BAD, "type", 31, 1).refused(Edge.BAD, "type", ' ', 0).refused(Edge.BAD, "type", ' ', 9);
        Run s = c.edge(2, "FULL: 120");
        s.types(" ".repeat(112)).due(120, "type", Check.word("  a=1/50"), 8).due(0, "edition", 0, 0);
    }

    // ---- promise 3

    private static void editionCourses() {
        Run r = c.edge(3, "COURSES 0 .. 3 have EDITIONS 0 .. 5 each, as they come");
        r.types("a=1/50").goes(0, 0, 3, "edition", 0, 0);
        r.due(0, "edition", 0, 7);
        for (int course = 3; course >= 0; course--) {
            for (int i = course == 0 ? 1 : 0; i < 6; i++) {
                r.edition(i, course, 10 * course + i + 7, "a=" + (6 * course + i) + "/50");
            }
        }
        for (int course = 0; course < 4; course++) {
            for (int i = 0; i < 6; i++) {
                r.is("from", r.does("told", course, i, 0), 10 * course + i + 7);
                r.is("name", r.does("lesson", course, i, 0, 0), course == 0 && i == 0 ? 1 : 6 * course + i);
            }
        }
    }

    private static void editionAfterTheOneAhead() {
        Run r = c.edge(3, "each in force from a DAY (no less than that of the one ahead)");
        r.edition(0, 0, 50, "a=1/50").types("b=2/50");
        r.refused(Edge.BAD, "edition", 0, 49).refused(Edge.BAD, "edition", 0, 0);
        r.due(1, "edition", 0, 50).edition(2, 0, 3999, "c=3/50").types("d=4/50");
        r.refused(Edge.BAD, "edition", 0, 3998).due(0, "edition", 1, 0).edition(3, 0, 3999, "d=4/50");
    }

    private static void editionTape() {
        Run r = c.edge(3, "THE TAPE, which is empty then, is an EDITION of a COURSE from a DAY on: its number.");
        r.edition(0, 0, 0, "a=1/50").due(1, "type", 'a', 1).due(-21, "edition", 0, 0);
        r.due(-20, "edition", 0, 0).due(1, "type", ' ', 1);
    }

    private static void editionBadTape() {
        Run r = c.edge(3, "BAD (THE TAPE stays): also the DAY is ahead of that of the one ahead; a FAULT; FULL: 6.");
        r.edition(0, 0, 9, "a=1/50").types("b=2/60");
        r.refused(Edge.BAD, "edition", 4, 9).refused(Edge.BAD, "edition", -1, 9).refused(Edge.BAD, "edition", 0, 8);
        r.refused(Edge.BAD, "edition", 0, -1).refused(Edge.BAD, "edition", 0, 4000);
        r.due(7, "type", ';', 1).due(-27, "edition", 0, 9);
        r.types("b=2/60").refused(Edge.BAD, "edition", 0, 8).due(1, "edition", 0, 9);
        r.asked(2, "told", 0, 1, 2).asked(2, "lesson", 0, 1, 1, 0).asked(60, "lesson", 0, 1, 1, 1);
    }

    private static void editionFull() {
        Run r = c.edge(3, "FULL: 6");
        for (int i = 0; i < 6; i++) {
            r.edition(i, 2, i, "a=" + i + "/50");
        }
        r.same(Edge.FULL, "b=9/99", "edition", 2, 3999);
        r.edition(0, 1, 0, "c=3/50");
    }

    private static void editionBehindFaults() {
        Run r = c.edge(3, "What is refused changes nothing.");
        r.edition(-33, 0, 0, "a=9/90:b&a;b=").edition(0, 0, 0, "a=1/50;b=2/50").due(0, "pupil", 0, 0, 0);
        r.asked(0, "lesson", 0, 0, 0, 2).asked(3, "may", 0, 0);
        r.edition(-39, 1, 0, "c=1/50;a=3/3:c|c;b=").edition(0, 1, 0, "a=4/40").due(1, "pupil", 0, 1, 0);
        r.asked(1, "told", 1, 0, 2).asked(Edge.BAD, "lesson", 1, 0, 2, 0).asked(1, "may", 1, 0)
            .asked(0, "lesson", 1, 0, 0, 2);
        r = c.edge(3, "What is refused changes nothing.");
        for (int i = 0; i < 5; i++) {
            r.edition(-139, 0, 0, "a=1/50:a" + "|a".repeat(55) + "|~");
        }
        r.edition(0, 0, 0, "a=1/50:!a;b=2/50:" + "a&".repeat(50) + "!b").due(0, "pupil", 0, 0, 0).asked(1, "may", 0, 0)
            .tutors(1, 9);
        r.marked(0, 0, 0, 0, 50);
        r.asked(2, "may", 0, 0);
    }

    private static void editionOrder() {
        Run r = c.edge(3, "Refusals are answers, of several the first that a call names");
        for (int i = 0; i < 6; i++) {
            r.edition(i, 0, 9, "a=1/50");
        }
        r.types("b=").refused(Edge.BAD, "edition", 0, 8).due(-22, "edition", 0, 9);
        r.fault(2, "b=", "edition", 0, 9).same(Edge.FULL, "b=1/50", "edition", 0, 9);
    }

    // ---- what an edition's text is

    private static void fault(Run r, int place, String text) {
        r.fault(place, text, "edition", 0, 0);
    }

    private static void whole(Run r, int lessons, String text) {
        Run fresh = r.another().edition(0, 0, 0, text);
        fresh.asked(lessons, "told", 0, 0, 2).asked(Integer.bitCount(lessons), "told", 0, 0, 1);
    }

    private static void clauses() {
        Run r = c.edge(3, "An EDITION is a TEXT: 1 to 8 CLAUSES with ; between");
        fault(r, 0, "");
        fault(r, 0, ";");
        fault(r, 6, "a=1/5;");
        fault(r, 6, "a=1/5;;b=1/5");
        fault(r, 0, ";a=1/5");
        fault(r, 5, "a=1/5b=1/5");
        fault(r, 5, "a=1/5,b=1/5");
        whole(r, 1, "a=1/5");
        whole(r, 3, "a=1/5;b=1/5");
        String eight = "h=1/5;g=1/5;f=1/5;e=1/5;d=1/5;c=1/5;b=1/5;a=1/5";
        whole(r, 255, eight);
        r = c.edge(3, "a ninth CLAUSE's ; can't");
        fault(r, 47, eight + ";");
        fault(r, 47, eight + ";a=1/5");
        fault(r, 49, eight + "  ;i");
        fault(r, 49, eight + ":a;");
    }

    private static void letters() {
        Run r = c.edge(3, "a LESSON (a letter a .. h, none twice)");
        whole(r, 1, "a=1/5");
        whole(r, 128, "h=1/5");
        fault(r, 0, "`=1/5");
        fault(r, 0, "i=1/5");
        fault(r, 0, "A=1/5");
        fault(r, 0, "H=1/5");
        fault(r, 0, "1=1/5");
        fault(r, 6, "a=1/5;a=1/5");
        fault(r, 12, "a=1/5;h=1/5;h=2/6");
        fault(r, 13, "a=1/5;h=1/5; a");
        fault(r, 1, "a");
        fault(r, 1, "ab=1/5");
    }

    private static void names() {
        Run r = c.edge(3, "= its NAME (0 .. 39)");
        whole(r, 1, "a=0/5");
        whole(r, 1, "a=39/5");
        fault(r, 2, "a=40/5");
        fault(r, 2, "a=-1/5");
        fault(r, 2, "a=/5");
        fault(r, 2, "a=");
        fault(r, 2, "a=b/5");
        fault(r, 1, "a39/5");
        fault(r, 2, "a==39/5");
        Run s = c.edge(5, "= its NAME (0 .. 39)");
        s.edition(0, 0, 0, "a=0/5;b=39/5").asked(0, "lesson", 0, 0, 0, 0).asked(39, "lesson", 0, 0, 1, 0);
    }

    private static void passes() {
        Run r = c.edge(3, "/ the marks (0 .. 100) with which it is PASSED");
        whole(r, 1, "a=1/0");
        whole(r, 1, "a=1/100");
        fault(r, 4, "a=1/101");
        fault(r, 4, "a=1/-1");
        fault(r, 4, "a=1/");
        fault(r, 4, "a=1/;");
        fault(r, 3, "a=1");
        fault(r, 3, "a=1;");
        fault(r, 4, "a=1//5");
        Run s = c.edge(5, "/ the marks (0 .. 100) with which it is PASSED");
        s.edition(0, 0, 0, "a=1/0;b=1/100").asked(0, "lesson", 0, 0, 0, 1).asked(100, "lesson", 0, 0, 1, 1);
    }

    private static void casesAndClaims() {
        Run r = c.edge(3, "and perhaps : what it LEANS on: CASES with | between; CASE: CLAIMS with & between");
        whole(r, 1, "a=1/5:a");
        whole(r, 1, "a=1/5:a|a&a|a");
        fault(r, 6, "a=1/5:");
        fault(r, 6, "a=1/5:;");
        fault(r, 7, "a=1/5:a:a");
        fault(r, 6, "a=1/5:|a");
        fault(r, 6, "a=1/5:&a");
        fault(r, 8, "a=1/5:a|");
        fault(r, 8, "a=1/5:a&");
        fault(r, 8, "a=1/5:a||a");
        fault(r, 8, "a=1/5:a&&a");
        fault(r, 8, "a=1/5:a&|a");
        fault(r, 8, "a=1/5:a|&a");
        fault(r, 8, "a=1/5:a|;b=1/5");
        fault(r, 7, "a=1/5:aa");
        fault(r, 6, "a=1/5:i");
        fault(r, 6, "a=1/5:`");
        fault(r, 6, "a=1/5:5");
        whole(r, 1, "a=1/50:a" + "|a".repeat(56));
        whole(r, 1, "a=1/50:a" + "&a".repeat(56));
    }

    private static void denied() {
        Run r = c.edge(3, "CLAIM: perhaps !, then a LESSON (it is PASSED)");
        whole(r, 1, "a=1/5:!a");
        whole(r, 1, "a=1/5:!(!a)&!a>3");
        fault(r, 7, "a=1/5:!");
        fault(r, 7, "a=1/5:!!a");
        fault(r, 7, "a=1/5:!|a");
        fault(r, 7, "a=1/5:a!");
        fault(r, 8, "a=1/5:!(");
    }

    private static void above() {
        Run r = c.edge(3, "a LESSON > a number (0 .. 100; its best marks are above that)");
        whole(r, 1, "a=1/5:a>0");
        whole(r, 1, "a=1/5:a>100");
        fault(r, 8, "a=1/5:a>101");
        fault(r, 8, "a=1/5:a>-1");
        fault(r, 8, "a=1/5:a>");
        fault(r, 8, "a=1/5:a>>5");
        fault(r, 8, "a=1/5:a>a");
        fault(r, 9, "a=1/5:a>5>5");
        fault(r, 6, "a=1/5:>5");
        fault(r, 9, "a=1/5:(a)>5");
    }

    private static void open() {
        Run r = c.edge(3, "or CASES in ( ) (6 open at once at most)");
        whole(r, 1, "a=1/5:((((((a))))))");
        whole(r, 1, "a=1/5:((((((a))))))&((((((a))))))|((((((a))))))");
        whole(r, 1, "a=1/5:!(!(!(!(!(!(a))))))");
        whole(r, 1, "a=1/5:(a)&(a)&(a)&(a)&(a)&(a)&(a)&(a)");
        whole(r, 1, "a=1/5:(((((a|(a))&(a))&(a))))");
        fault(r, 12, "a=1/5:(((((((a)))))))");
        fault(r, 12, "a=1/5:(((((((");
        fault(r, 19, "a=1/5:!(!(!(!(!(!(!(a)))))))");
        fault(r, 26, "a=1/5:((((((a))))))&((((((((");
        fault(r, 7, "a=1/5:()");
        fault(r, 7, "a=1/5:(");
        fault(r, 8, "a=1/5:(a");
        fault(r, 18, "a=1/5:((((((a)))))");
        fault(r, 8, "a=1/5:(a;b=1/5");
        fault(r, 7, "a=1/5:a)");
        fault(r, 9, "a=1/5:(a))");
        fault(r, 6, "a=1/5:)");
    }

    private static void toldNowhere() {
        Run r = c.edge(3, "LESSONS that are told nowhere in the TEXT can't stand in it (a FAULT at the end of the TEXT)");
        fault(r, 7, "a=1/5:b");
        fault(r, 9, "a=1/5:b  ");
        fault(r, 9, "a=1/5:h>3");
        fault(r, 20, "a=1/5:b;b=1/5:(a|!c)");
        fault(r, 13, "a=1/5;b=1/5:c");
        fault(r, 8, "a=1/5:b b=1/5");
        fault(r, 13, "a=1/5:b;c=1/5");
        whole(r, 3, "a=1/5:b;b=1/5");
        whole(r, 3, "b=1/5;a=1/5:b");
        whole(r, 1, "a=1/5:a");
        fault(r, 120, "a=1/5:b" + "&b".repeat(56) + " ");
    }

    // ---- faults

    private static void faultPlaces() {
        Run r = c.edge(3, "FAULTS: -20 less the place of the first byte (behind blanks) that can't stand there (the end: how many bytes there are)");
        fault(r, 0, "");
        fault(r, 1, " ");
        fault(r, 120, " ".repeat(120));
        fault(r, 0, "~");
        fault(r, 1, " ~");
        fault(r, 119, " ".repeat(119) + "~");
        fault(r, 5, "a=1/5~~~");
        fault(r, 7, "a=1/5  ~");
        fault(r, 8, "a=1/5;  ");
        fault(r, 120, "a=1/50:a" + "|a".repeat(55) + "| ");
        fault(r, 119, "a=1/50:a" + "|a".repeat(55) + "|~");
        r.edition(0, 0, 0, "a=1/50:a" + "|a".repeat(56));
    }

    private static void blanks() {
        Run r = c.edge(3, "bytes 32 count for nothing, but do not stand in a number");
        whole(r, 3, "  a  =  12  /  34  :  !  (  b  >  56  |  a  )  &  b  ;  b  =  7  /  8  ");
        whole(r, 1, "a=1/5" + " ".repeat(115));
        whole(r, 1, " ".repeat(115) + "a=1/5");
        fault(r, 4, "a=1 2/5");
        fault(r, 6, "a=1/5 0");
        fault(r, 10, "a=1/5:a>1 0");
        fault(r, 11, "a=1/5:a> 1 0");
        Run s = r.another().edition(0, 0, 0, " a = 12 / 34 : a > 0 ");
        s.asked(12, "lesson", 0, 0, 0, 0).asked(34, "lesson", 0, 0, 0, 1).asked(1, "lesson", 0, 0, 0, 2);
    }

    private static void numbersBeyond() {
        Run r = c.edge(3, "of a number beyond its first byte");
        fault(r, 2, "a=40/5");
        fault(r, 2, "a=390/5");
        fault(r, 3, "a= 40 /5");
        fault(r, 2, "a=0040/5");
        fault(r, 2, "a=4294967297/5");
        fault(r, 2, "a=18446744073709551617/5");
        fault(r, 2, "a=" + "9".repeat(118));
        fault(r, 4, "a=1/101");
        fault(r, 4, "a=1/1000");
        fault(r, 4, "a=1/4294967296");
        fault(r, 8, "a=1/5:a>101");
        fault(r, 9, "a=1/5:a> 4294967297");
        whole(r, 1, "a=039/0100:a>0100");
    }

    // ---- promise 35

    private static Run withFees(Run r) {
        return r.school(1, "a=1/50").fees(2, 0, "p0=7;b0=50").due(100, "pay", 0, 100, 0);
    }

    private static void feesCourses() {
        Run r = withFees(c.edge(35, "THE TAPE, which is empty then, is FEES of a COURSE: how many CLAUSES."));
        r.types("p0=9").goes(0, 0, 3, "fees", 0);
        r.due(1, "fees", 3).due(1, "type", ' ', 1).due(-21, "fees", 0);
        r.asked(0, "due", 0, 0).fees(6, 0, "p0=1;p0=2;p0=4;p0=8;p0=16;p0=999").asked(930, "due", 0, 0);
    }

    private static void feesTape() {
        Run r = withFees(c.edge(35, "BAD (THE TAPE stays); a FAULT (FEES stay)."));
        r.types("p0=9").refused(Edge.BAD, "fees", 4).refused(Edge.BAD, "fees", -1);
        r.due(5, "type", ';', 1).refused(Edge.BAD, "fees", 4).due(-25, "fees", 0);
        r.types("p0=199").refused(Edge.BAD, "fees", Edge.MIN).due(1, "fees", 0).asked(99, "due", 0, 0);
    }

    private static void feesFault() {
        Run r = withFees(c.edge(35, "a FAULT (FEES stay)"));
        r.fault(5, "p0=9;", "fees", 0);
        r.fault(25, "p1=2;p1=2;p1=2;p1=2;p1=2;", "fees", 0);
        r.fault(0, "", "fees", 0);
        r.due(-20, "fees", 0).due(-20, "fees", 1).asked(0, "due", 0, 0).due(50, "leave", 0, 0);
    }

    private static void feesFault(Run r, int place, String text) {
        r.fault(place, text, "fees", 0);
    }

    private static void feesClauses() {
        Run r = withFees(c.edge(35, "FEES of a COURSE are a TEXT: 1 to 6 CLAUSES with ; between"));
        feesFault(r, 0, "");
        feesFault(r, 0, ";");
        feesFault(r, 5, "p1=2;");
        feesFault(r, 5, "p1=2;;p1=2");
        feesFault(r, 4, "p1=2p1=2");
        feesFault(r, 4, "p1=2,p1=2");
        feesFault(r, 0, "q1=2");
        feesFault(r, 0, "a=1/5");
        String six = "p1=2;b1=2;p1=2;b1=2;p1=2;b1=2";
        r.another().fees(1, 0, "p1=2").fees(1, 0, "b1=2").fees(5, 0, six.substring(0, 24)).fees(6, 0, six);
        r = withFees(c.edge(35, "FAULTS as above (a seventh CLAUSE's ; can't)"));
        feesFault(r, 29, six + ";");
        feesFault(r, 29, six + ";p1=2");
        feesFault(r, 31, six + "  ;~");
    }

    private static void feesNumbers() {
        Run r = withFees(c.edge(35, "p DAYS (0 .. 999) = pence (0 .. 99999)"));
        r.another().fees(2, 0, "p0=0;p999=99999").fees(1, 0, "p000=00000").fees(1, 0, "p0999=099999");
        feesFault(r, 1, "p1000=1");
        feesFault(r, 1, "p-1=1");
        feesFault(r, 1, "p=1");
        feesFault(r, 1, "p");
        feesFault(r, 2, "p1");
        feesFault(r, 2, "p1/1");
        feesFault(r, 3, "p1=");
        feesFault(r, 3, "p1=100000");
        feesFault(r, 3, "p1=-1");
        feesFault(r, 3, "p1=4294967297");
        feesFault(r, 3, "p1=p");
        feesFault(r, 1, "p4294967296=1");
        Run s = r.another().school(1, "a=1/50").fees(2, 0, "p999=99999;p0=0");
        s.asked(0, "due", 0, 998).asked(99999, "due", 0, 999);
    }

    private static void feesBack() {
        Run r = withFees(c.edge(35, "b DAYS = hundredths (0 .. 100)"));
        r.another().fees(2, 0, "b0=0;b999=100").fees(1, 0, "b00=0100");
        feesFault(r, 1, "b1000=1");
        feesFault(r, 1, "b=1");
        feesFault(r, 3, "b1=101");
        feesFault(r, 3, "b1=99999");
        feesFault(r, 3, "b1=-1");
        feesFault(r, 3, "b1=");
        feesFault(r, 0, "B1=1");
        feesFault(r, 0, "c1=1");
    }

    private static void feesPlaces() {
        Run r = withFees(c.edge(35, "bytes 32 count for nothing, but do not stand in a number"));
        r.another().fees(2, 0, "  p  12  =  34  ;  b  5  =  6  ").fees(1, 0, " ".repeat(116) + "p1=2");
        feesFault(r, 3, "p1 2=3");
        feesFault(r, 5, "p1=2 3");
        feesFault(r, 2, "  ");
        feesFault(r, 120, " ".repeat(120));
        feesFault(r, 119, " ".repeat(119) + "~");
        feesFault(r, 2, "p 1000=1");
        feesFault(r, 7, "b1=1 ; ~");
    }
}
