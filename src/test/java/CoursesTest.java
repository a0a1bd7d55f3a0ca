/** Promises 1 to 11: a new object, courses, pupils. */
public final class CoursesTest {
    private static final int MIN = Integer.MIN_VALUE;
    private static final int MAX = Integer.MAX_VALUE;
    private static final Check c = new Check();

    public static void main(String[] args) {
        newObject();
        type();
        editionAnswers();
        editionFaults();
        editionWholes();
        told();
        lesson();
        pupil();
        who();
        habit();
        best();
        may();
        mayByWhatItLeansOn();
        lean();
        leanByNames();
        c.end();
    }

    private static void newObject() {
        c.about("promise 1");
        LetterSchool x = new LetterSchool();
        for (int course = 0; course < 4; course++) {
            c.due("told", x.told(course, 0, 0), LetterSchool.BAD);
            c.due("pupil", x.pupil(0, course, 3999), LetterSchool.NOT);
        }
        for (int what = 0; what < 8; what++) {
            c.due("count", x.count(what), 0);
        }
        for (int sheet = 0; sheet < 4; sheet++) {
            c.due("drop", x.drop(sheet), LetterSchool.NULL);
        }
        for (int name = 0; name < 40; name++) {
            for (int at = 0; at < 20; at++) {
                c.due("key", x.key(name, at, 0), 0);
            }
        }
        c.due("who", x.who(0, 0), LetterSchool.BAD);
        c.due("load", x.load(0), LetterSchool.BAD);
        c.due("limit", x.limit(3), 5);
        c.due("doubted", x.doubted(0), LetterSchool.NONE);
        c.due("share", x.share(0, 0), 0);
        c.due("edition of an empty tape", x.edition(0, 0), -20);
        c.due("fees of an empty tape", x.fees(0), -20);
    }

    private static void type() {
        c.about("promise 2");
        LetterSchool x = new LetterSchool();
        c.due("n 0", x.type('a', 0), LetterSchool.BAD);
        c.due("n 9", x.type('a', 9), LetterSchool.BAD);
        c.due("n 9, all bytes good", x.type(Check.word("aaaaaaaa"), 9), LetterSchool.BAD);
        c.due("n least", x.type('a', MIN), LetterSchool.BAD);
        c.due("n greatest", x.type('a', MAX), LetterSchool.BAD);
        c.due("byte 31", x.type(31, 1), LetterSchool.BAD);
        c.due("byte 127", x.type(127, 1), LetterSchool.BAD);
        c.due("byte 255", x.type(255, 1), LetterSchool.BAD);
        c.due("the second of two", x.type('a', 2), LetterSchool.BAD);
        c.due("the highest of eight", x.type(-1L << 56 | 0x20202020202020L, 8), LetterSchool.BAD);
        c.due("byte 32", x.type(32, 1), 1);
        c.due("byte 126", x.type(126, 1), 2);
        c.due("what is above the lowest byte is nothing", x.type(-1L << 8 | 'a', 1), 3);
        c.due("the blank is passed", x.edition(0, 0), -21);
        Check.type(x, "a=12/3");
        c.due("the highest byte comes first", x.edition(0, 0), 0);
        c.due("name", x.lesson(0, 0, 0, 0), 12);
        for (int i = 1; i <= 14; i++) {
            c.due("eight more", x.type(Check.word("        "), 8), 8 * i);
        }
        c.due("seven more", x.type(Check.word("       "), 7), 119);
        c.due("two more than there is room for", x.type(Check.word("  "), 2), LetterSchool.FULL);
        c.due("bad ahead of full", x.type(5, 2), LetterSchool.BAD);
        c.due("the last", x.type(' ', 1), 120);
        c.due("one too many", x.type(' ', 1), LetterSchool.FULL);
        c.due("the fault at the end", x.edition(0, 0), -140);
        c.due("the tape is empty", x.type(' ', 1), 1);
    }

    private static void editionAnswers() {
        c.about("promise 3");
        LetterSchool x = new LetterSchool();
        Check.type(x, "a=1/5");
        c.due("course -1", x.edition(-1, 0), LetterSchool.BAD);
        c.due("course 4", x.edition(4, 0), LetterSchool.BAD);
        c.due("course least", x.edition(MIN, 0), LetterSchool.BAD);
        c.due("day -1", x.edition(0, -1), LetterSchool.BAD);
        c.due("day 4000", x.edition(0, 4000), LetterSchool.BAD);
        c.due("the tape stayed", x.type(' ', 1), 6);
        c.due("first", x.edition(3, 3998), 0);
        c.due("the tape is empty then", x.edition(3, 3998), -20);
        c.due("same day", Check.edition(x, 3, 3998, "b=1/5"), 1);
        c.due("ahead of the one ahead", Check.edition(x, 3, 3997, "b=1/5"), LetterSchool.BAD);
        c.due("another course", x.edition(2, 0), 0);
        c.due("later", Check.edition(x, 3, 3999, "c=1/5"), 2);
        for (int i = 3; i < 6; i++) {
            c.due("more", Check.edition(x, 3, 3999, "d=1/5"), i);
        }
        c.due("bad ahead of full", Check.edition(x, 3, 3998, "d=1/5"), LetterSchool.BAD);
        c.due("full", x.edition(3, 3999), LetterSchool.FULL);
        c.due("a fault ahead of full", Check.edition(x, 3, 3999, "d="), -22);
        c.due("what is full stays", x.told(3, 5, 2), 8);
    }

    private static void fault(String text, int place) {
        LetterSchool x = new LetterSchool();
        c.due("'" + text + "'", Check.edition(x, 0, 0, text), -20 - place);
        c.due("behind '" + text + "'", x.told(0, 0, 0), LetterSchool.BAD);
        c.due("the tape behind '" + text + "'", x.type('a', 1), 1);
    }

    private static void editionFaults() {
        c.about("promise 3, faults");
        fault("", 0);
        fault("   ", 3);
        fault(" i=1/5", 1);
        fault("A=1/5", 0);
        fault("`=1/5", 0);
        fault("a", 1);
        fault("a 1", 2);
        fault("a=", 2);
        fault("a=/", 2);
        fault("a=40/1", 2);
        fault("a= 99999999999999999999/1", 3);
        fault("a=4294967297/1", 2);
        fault("a=1", 3);
        fault("a=1;", 3);
        fault("a=1 2/5", 4);
        fault("a=1/", 4);
        fault("a=1/101", 4);
        fault("a=1/5 ;", 7);
        fault("a=1/5 ; ", 8);
        fault("a=1/5;;", 6);
        fault("a=1/5;b=2/5;a=3/5", 12);
        fault("a=1/5a", 5);
        fault("a=1/5:", 6);
        fault("a=1/5:i", 6);
        fault("a=1/5:1", 6);
        fault("a=1/5:!", 7);
        fault("a=1/5:! !a", 8);
        fault("a=1/5:a&", 8);
        fault("a=1/5:a|", 8);
        fault("a=1/5:a&&a", 8);
        fault("a=1/5:a|&a", 8);
        fault("a=1/5:a a", 8);
        fault("a=1/5:a>", 8);
        fault("a=1/5:a>a", 8);
        fault("a=1/5:a>101", 8);
        fault("a=1/5:a> 1 0", 11);
        fault("a=1/5:a>1>1", 9);
        fault("a=1/5:a)", 7);
        fault("a=1/5:()", 7);
        fault("a=1/5:(a", 8);
        fault("a=1/5:(a;b=1/5", 8);
        fault("a=1/5:(a)>1", 9);
        fault("a=1/5:((a)", 10);
        fault("a=1/5:(((((((a)))))))", 12);
        fault("a=1/5:a&!(!(!(!(!(!(!(a)))))))", 21);
        fault("a=1/5:a:a", 7);
        fault("a=1/5:b", 7);
        fault("a=1/5:b  ", 9);
        fault("a=1/5:a>5|(a&!c);b=1/5", 22);
        fault("a=1/5:b;b=1/5;b", 14);
        fault("a=1/1;b=1/1;c=1/1;d=1/1;e=1/1;f=1/1;g=1/1;h=1/1;", 47);
        fault("a=1/1;b=1/1;c=1/1;d=1/1;e=1/1;f=1/1;g=1/1;h=1/1 ; a=1/1", 48);
    }

    private static void whole(String text, int lessons) {
        LetterSchool x = new LetterSchool();
        c.due("'" + text + "'", Check.edition(x, 0, 0, text), 0);
        c.due("lessons of '" + text + "'", x.told(0, 0, 2), lessons);
    }

    private static void editionWholes() {
        c.about("promise 3, wholes");
        whole("a=0/0", 1);
        whole("h=39/100", 128);
        whole("  a  =  007 / 005 : a > 00100 ", 1);
        whole("b=1/5:a;a=1/5:b", 3);
        whole("a=1/5:((((((a))))))", 1);
        whole("a=1/5:((((((a))))))&((((((a))))))|!((((((a>5))))))", 1);
        whole("h=1/1;g=1/1;f=1/1;e=1/1;d=1/1;c=1/1;b=1/1;a=1/1", 255);
        StringBuilder longest = new StringBuilder("a=1/5:a");
        while (longest.length() < 119) {
            longest.append("|a");
        }
        whole(longest.toString(), 1);
    }

    private static void told() {
        c.about("promise 4");
        LetterSchool x = new LetterSchool();
        Check.edition(x, 1, 7, "h=1/5;b=2/6:h");
        Check.edition(x, 1, 9, "c=1/5");
        c.due("from", x.told(1, 0, 0), 7);
        c.due("how many", x.told(1, 0, 1), 2);
        c.due("which", x.told(1, 0, 2), 130);
        c.due("from of the next", x.told(1, 1, 0), 9);
        c.due("how many of the next", x.told(1, 1, 1), 1);
        c.due("which of the next", x.told(1, 1, 2), 4);
        int[][] bads = {{-1, 0, 0}, {4, 0, 0}, {0, 0, 0}, {1, -1, 0}, {1, 2, 0}, {1, 6, 0}, {1, 0, -1}, {1, 0, 3},
            {MIN, 0, 0}, {MAX, 0, 0}, {1, MIN, 0}, {1, MAX, 0}, {1, 0, MIN}, {1, 0, MAX}};
        for (int[] b : bads) {
            c.due("bad", x.told(b[0], b[1], b[2]), LetterSchool.BAD);
        }
    }

    private static void lesson() {
        c.about("promise 5");
        LetterSchool x = new LetterSchool();
        Check.edition(x, 2, 0, "b=39/100:!(b>3|c)&a;c=0/0;a=10/51");
        c.due("name", x.lesson(2, 0, 1, 0), 39);
        c.due("pass", x.lesson(2, 0, 1, 1), 100);
        c.due("leans", x.lesson(2, 0, 1, 2), 7);
        c.due("name of c", x.lesson(2, 0, 2, 0), 0);
        c.due("pass of c", x.lesson(2, 0, 2, 1), 0);
        c.due("c leans on nothing", x.lesson(2, 0, 2, 2), 0);
        c.due("pass of a", x.lesson(2, 0, 0, 1), 51);
        int[][] bads = {{2, 0, 3, 0}, {2, 0, -1, 0}, {2, 0, 8, 0}, {2, 0, 33, 0}, {2, 1, 1, 0}, {2, -1, 1, 0}, {1, 0, 1, 0},
            {-1, 0, 1, 0}, {4, 0, 1, 0}, {2, 0, 1, -1}, {2, 0, 1, 3}, {2, 0, MIN, 0}, {2, 0, MAX, 0}};
        for (int[] b : bads) {
            c.due("bad", x.lesson(b[0], b[1], b[2], b[3]), LetterSchool.BAD);
        }
        Check.edition(x, 2, 0, "a=1/2:a=");
        Check.edition(x, 2, 0, "c=3/4");
        c.due("nothing is left of what was a fault", x.lesson(2, 1, 0, 0), LetterSchool.BAD);
        c.due("nor is what it leant on", x.lesson(2, 1, 2, 2), 0);
        Check.edition(x, 3, 0, "a=1/5:a&a|a;b=");
        Check.edition(x, 3, 0, "b=1/5:b|b;a=1/5");
        x.pupil(0, 3, 0);
        c.due("nor does it lean on that", x.may(0, 0), 1);
    }

    private static void pupil() {
        c.about("promise 6");
        LetterSchool x = new LetterSchool();
        c.due("bad ahead of not", x.pupil(6, 0, 0), LetterSchool.BAD);
        Check.edition(x, 0, 5, "a=1/5");
        Check.edition(x, 0, 8, "b=1/5");
        Check.edition(x, 0, 8, "c=1/5");
        int[][] bads = {{-1, 0, 9}, {6, 0, 9}, {0, -1, 9}, {0, 4, 9}, {0, 0, -1}, {0, 0, 4000}, {MIN, 0, 9}, {0, MAX, 9},
            {0, 0, MIN}};
        for (int[] b : bads) {
            c.due("bad", x.pupil(b[0], b[1], b[2]), LetterSchool.BAD);
        }
        c.due("none in force yet", x.pupil(0, 0, 4), LetterSchool.NOT);
        c.due("none in force in another course", x.pupil(0, 1, 9), LetterSchool.NOT);
        c.due("first", x.pupil(5, 0, 5), 0);
        c.due("second", x.pupil(0, 0, 7), 1);
        c.due("third", x.pupil(0, 0, 8), 2);
        c.due("edition of the first", x.who(0, 2), 0);
        c.due("edition of the second", x.who(1, 2), 0);
        c.due("the latest of one day", x.who(2, 2), 2);
        Check.edition(x, 0, 8, "d=1/5");
        c.due("an edition that comes later changes nobody's", x.who(2, 2), 2);
        for (int i = 3; i < 12; i++) {
            c.due("more", x.pupil(0, 0, 3999), i);
        }
        c.due("full", x.pupil(0, 0, 8), LetterSchool.FULL);
        c.due("not ahead of full", x.pupil(0, 0, 4), LetterSchool.NOT);
        c.due("bad ahead of full", x.pupil(0, 0, 4000), LetterSchool.BAD);
        c.due("count", x.count(0), 12);
    }

    private static void who() {
        c.about("promise 7");
        LetterSchool x = new LetterSchool();
        Check.edition(x, 3, 0, "a=1/5");
        Check.edition(x, 3, 5, "a=1/5");
        x.pupil(1, 3, 4);
        x.pupil(4, 3, 6);
        int[] want = {4, 3, 1, 6, 5, LetterSchool.NONE, 0};
        for (int what = 0; what < 7; what++) {
            c.due("who " + what, x.who(1, what), want[what]);
        }
        x.habit(1, 9);
        x.pay(1, 300, 7);
        x.pay(1, 40, 6);
        x.pay(0, 5, 6);
        x.leave(1, 20);
        int[] then = {4, 3, 1, 6, 9, 20, 340};
        for (int what = 0; what < 7; what++) {
            c.due("then " + what, x.who(1, what), then[what]);
        }
        c.due("who of the other", x.who(0, 6), 5);
        c.due("pupil -1", x.who(-1, 0), LetterSchool.BAD);
        c.due("pupil 2", x.who(2, 0), LetterSchool.BAD);
        c.due("pupil 12", x.who(12, 0), LetterSchool.BAD);
        c.due("what -1", x.who(0, -1), LetterSchool.BAD);
        c.due("what 7", x.who(0, 7), LetterSchool.BAD);
    }

    private static void habit() {
        c.about("promise 8");
        LetterSchool x = Check.school("a=1/5", 2);
        c.due("at first", x.habit(1, 0), 5);
        c.due("then", x.habit(1, 60), 0);
        c.due("61", x.habit(1, 61), LetterSchool.BAD);
        c.due("-1", x.habit(1, -1), LetterSchool.BAD);
        c.due("nobody", x.habit(2, 1), LetterSchool.BAD);
        c.due("pupil -1", x.habit(-1, 1), LetterSchool.BAD);
        c.due("it stayed", x.who(1, 4), 60);
        c.due("the other's", x.who(0, 4), 5);
    }

    private static void best() {
        c.about("promise 9");
        LetterSchool x = Check.school("a=1/50;b=2/50:a;c=1/90", 2);
        x.tutor(15, 9);
        x.tutor(15, 9);
        c.due("none", x.best(0, 0, 3999), LetterSchool.NONE);
        int first = Check.marked(x, 0, 0, 0, 0, 40);
        int second = Check.marked(x, 0, 0, 10, 0, 70);
        int third = Check.marked(x, 0, 2, 20, 0, 60);
        c.due("days", x.marks(first, 1), 6);
        c.due("days", x.marks(second, 1), 16);
        c.due("days", x.marks(third, 1), 26);
        c.due("the day ahead", x.best(0, 0, 5), LetterSchool.NONE);
        c.due("on the day", x.best(0, 0, 6), 40);
        c.due("till the next", x.best(0, 0, 15), 40);
        c.due("the next", x.best(0, 0, 16), 70);
        c.due("less marks change nothing", x.best(0, 0, 3999), 70);
        c.due("by its name", x.best(0, 2, 16), 70);
        c.due("another name", x.best(0, 1, 3999), LetterSchool.NONE);
        c.due("another pupil", x.best(1, 0, 3999), LetterSchool.NONE);
        x.second(first, 1, 100, 100, 100);
        c.due("a second tutor's marks are no marks of it", x.best(0, 0, 3999), 70);
        Check.marked(x, 1, 0, 0, 0, 0);
        c.due("no marks at all, but marked", x.best(1, 0, 3999), 0);
        int[][] bads = {{2, 0, 0}, {-1, 0, 0}, {0, 3, 0}, {0, -1, 0}, {0, 8, 0}, {0, 0, -1}, {0, 0, 4000}, {0, MIN, 0}};
        for (int[] b : bads) {
            c.due("bad", x.best(b[0], b[1], b[2]), LetterSchool.BAD);
        }
    }

    private static void may() {
        c.about("promise 10");
        LetterSchool x = Check.school("a=1/50;b=2/0:a;d=3/50:b>60;e=4/50:!a", 2);
        x.tutor(15, 9);
        c.due("at first", x.may(0, 0), 17);
        c.due("passed at first", x.may(0, 1), 0);
        c.due("lack at first", x.may(0, 2), 27);
        Check.marked(x, 0, 0, 0, 0, 49);
        c.due("one below", x.may(0, 0), 17);
        Check.marked(x, 0, 0, 0, 0, 50);
        c.due("no less", x.may(0, 0), 2);
        c.due("passed then", x.may(0, 1), 1);
        c.due("lack then", x.may(0, 2), 26);
        int b = Check.answered(x, 0, 1, 0);
        c.due("not marked is none", x.may(0, 1), 1);
        x.give(b, 0, 6);
        x.mark(b, 60, 60, 60, 6);
        c.due("60 is not above 60", x.may(0, 0), 0);
        c.due("passed with two", x.may(0, 1), 3);
        c.due("the other pupil's", x.may(1, 1), 0);
        c.due("nobody", x.may(2, 0), LetterSchool.BAD);
        c.due("what 3", x.may(0, 3), LetterSchool.BAD);
        c.due("what -1", x.may(0, -1), LetterSchool.BAD);
        c.due("pupil -1", x.may(-1, 0), LetterSchool.BAD);
    }

    /** Lesson h leans on a text over a .. c, of which those in the set have been passed with 80 marks. */
    private static boolean opens(String leaning, int set) {
        LetterSchool x = Check.school("a=1/50;b=2/50;c=3/50;h=9/50:" + leaning, 1);
        x.tutor(15, 9);
        for (int i = 0; i < 3; i++) {
            if ((set >> i & 1) == 1) {
                Check.marked(x, 0, i, 0, 0, 80);
            }
        }
        return (x.may(0, 0) >> 7 & 1) == 1;
    }

    private static void mayByWhatItLeansOn() {
        c.about("promise 10, what a lesson leans on");
        for (int set = 0; set < 8; set++) {
            boolean a = (set & 1) != 0;
            boolean b = (set & 2) != 0;
            boolean d = (set & 4) != 0;
            c.holds("a&b|c by " + set, opens("a&b|c", set) == (a && b || d));
            c.holds("a|b&c by " + set, opens("a|b&c", set) == (a || b && d));
            c.holds("(a|b)&c by " + set, opens("(a|b)&c", set) == ((a || b) && d));
            c.holds("c&(a|b) by " + set, opens("c&(a|b)", set) == ((a || b) && d));
            c.holds("!a&b by " + set, opens("!a&b", set) == (!a && b));
            c.holds("!(a&b)|!c by " + set, opens("!(a&b)|!c", set) == (!(a && b) || !d));
            c.holds("a&b&c by " + set, opens("a&b&c", set) == (a && b && d));
            c.holds("a|b|c by " + set, opens("a|b|c", set) == (a || b || d));
            c.holds("a>79 by " + set, opens("a>79", set) == a);
            c.holds("a>80 by " + set, !opens("a>80", set));
            c.holds("!a>79&b>0 by " + set, opens("!a>79&b>0", set) == (!a && b));
            c.holds("!(!(a|b)|!(c)) by " + set, opens("!(!(a|b)|!(c))", set) == ((a || b) && d));
            c.holds("(a|(b|(c&(a|(b|(c)))))) by " + set, opens("(a|(b|(c&(a|(b|(c))))))", set) == (a || b || d));
            c.holds("a&!(b&!(c|!a)) by " + set, opens("a&!(b&!(c|!a))", set) == (a && !(b && !(d || !a))));
        }
    }

    private static void lean() {
        c.about("promise 11");
        LetterSchool x = Check.school("a=1/50;b=2/50:a;c=3/50:b;d=4/50:a&!b;e=5/50:d&b;f=6/50:f;g=7/50:c|a>100;h=8/50:!a&b", 1);
        // Of e: a, d, b, e is the one order that goes, since d can't be had behind b.
        int[] want = {1, 2, 3, 2, 4, LetterSchool.NONE, 4, LetterSchool.NONE};
        for (int i = 0; i < 8; i++) {
            c.due("lean " + i, x.lean(0, i), want[i]);
        }
        x.tutor(15, 9);
        Check.marked(x, 0, 0, 0, 0, 60);
        int[] then = {0, 1, 2, 1, 3, LetterSchool.NONE, 3, LetterSchool.NONE};
        for (int i = 0; i < 8; i++) {
            c.due("then " + i, x.lean(0, i), then[i]);
        }
        Check.marked(x, 0, 1, 0, 0, 60);
        c.due("d no more", x.lean(0, 3), LetterSchool.NONE);
        c.due("e no more", x.lean(0, 4), LetterSchool.NONE);
        c.due("nobody", x.lean(1, 0), LetterSchool.BAD);
        c.due("pupil -1", x.lean(-1, 0), LetterSchool.BAD);
        c.due("lesson -1", x.lean(0, -1), LetterSchool.BAD);
        c.due("lesson 8", x.lean(0, 8), LetterSchool.BAD);
        LetterSchool y = Check.school("b=1/50:b>50;c=2/1", 1);
        c.due("no such lesson", y.lean(0, 0), LetterSchool.BAD);
        c.due("what leans on itself", y.lean(0, 1), LetterSchool.NONE);
    }

    private static void leanByNames() {
        c.about("promise 11, names");
        LetterSchool x = Check.school("a=1/50;b=1/90;c=2/50:a>90;d=3/50:b;e=1/50:c", 1);
        c.due("b by its own name", x.lean(0, 1), 1);
        c.due("100 marks are above 90", x.lean(0, 2), 2);
        c.due("a passes b, too", x.lean(0, 3), 2);
        c.due("a passes e, too", x.lean(0, 4), 1);
        x.tutor(15, 9);
        Check.marked(x, 0, 0, 0, 0, 60);
        c.due("a is passed and can't be had again, but b can", x.lean(0, 2), 2);
        Check.marked(x, 0, 1, 0, 0, 90);
        c.due("now nothing of that name can be had", x.lean(0, 2), LetterSchool.NONE);
        LetterSchool y = Check.school("a=1/50;b=2/50;c=3/50;d=4/50;e=5/50;f=6/50;g=7/50;h=8/50:a&b&c&d&e&f&g", 1);
        c.due("all eight", y.lean(0, 7), 8);
    }
}
