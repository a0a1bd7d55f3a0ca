/** Promises 22 to 29: tutors, waits, shares, offsets. */
public final class TutorsTest {
    private static final int MIN = Integer.MIN_VALUE;
    private static final int MAX = Integer.MAX_VALUE;
    private static final Check c = new Check();

    public static void main(String[] args) {
        tutor();
        kin();
        load();
        waits();
        took();
        shareOfEqual();
        shareMost();
        shareLeast();
        shareLimits();
        shareAnswers();
        offset();
        c.end();
    }

    private static void tutor() {
        c.about("promise 22");
        LetterSchool x = Check.school("a=9/50;b=10/50;c=19/50;d=20/50;e=30/50;f=39/50", 1);
        int[][] bads = {{-1, 1}, {16, 1}, {1, 0}, {1, 10}, {1, -1}, {MIN, 1}, {MAX, 1}, {1, MIN}, {1, MAX}};
        for (int[] b : bads) {
            c.due("bad", x.tutor(b[0], b[1]), LetterSchool.BAD);
        }
        c.due("of 0 .. 9", x.tutor(1, 1), 0);
        c.due("of 10 .. 19", x.tutor(2, 9), 1);
        c.due("of 20 .. 29", x.tutor(4, 9), 2);
        c.due("of 30 .. 39", x.tutor(8, 9), 3);
        int[] teaches = {0, 1, 1, 2, 3, 3};
        for (int i = 0; i < 6; i++) {
            int thing = Check.answered(x, 0, i, 0);
            for (int t = 0; t < 4; t++) {
                if (t != teaches[i]) {
                    c.due("another name", x.give(thing, t, 6), LetterSchool.NOT);
                }
            }
            c.holds("tutor " + teaches[i] + " teaches lesson " + i, x.give(thing, teaches[i], 6) > 0);
        }
        c.due("of none", x.tutor(0, 9), 4);
        c.due("of all", x.tutor(15, 9), 5);
        c.due("full", x.tutor(15, 9), LetterSchool.FULL);
        c.due("bad ahead of full", x.tutor(16, 9), LetterSchool.BAD);
        c.due("count", x.count(1), 6);
    }

    private static void kin() {
        c.about("promise 23");
        LetterSchool x = Check.school("a=9/50", 12);
        x.tutor(15, 1);
        x.tutor(15, 1);
        c.due("at first", x.kin(0, 4095), 0);
        c.due("then", x.kin(0, 2048), 4095);
        c.due("the other's", x.kin(1, 1), 0);
        c.due("4096", x.kin(0, 4096), LetterSchool.BAD);
        c.due("-1", x.kin(0, -1), LetterSchool.BAD);
        c.due("tutor 2", x.kin(2, 0), LetterSchool.BAD);
        c.due("tutor -1", x.kin(-1, 0), LetterSchool.BAD);
        int last = Check.answered(x, 11, 0, 0);
        int first = Check.answered(x, 0, 0, 0);
        c.due("kin", x.give(last, 0, 6), LetterSchool.NOT);
        c.due("kin of the other", x.give(first, 1, 6), LetterSchool.NOT);
        c.due("no kin", x.give(first, 0, 6), 1);
        c.due("what is given stays so", x.kin(0, 1), 2048);
        c.due("and can be marked", x.mark(first, 5, 5, 5, 6), 5);
    }

    private static void load() {
        c.about("promise 24");
        LetterSchool x = Check.school("a=9/50", 1);
        c.due("nobody", x.load(0), LetterSchool.BAD);
        x.tutor(15, 1);
        x.tutor(15, 1);
        c.due("at first", x.load(0), 0);
        for (int i = 0; i < 3; i++) {
            x.give(Check.answered(x, 0, 0, 0), 0, 6);
        }
        c.due("three", x.load(0), 3);
        c.due("the other's", x.load(1), 0);
        x.mark(0, 1, 1, 1, 6);
        c.due("two", x.load(0), 2);
        x.again(1, 6);
        c.due("one", x.load(0), 1);
        c.due("tutor 2", x.load(2), LetterSchool.BAD);
        c.due("tutor -1", x.load(-1), LetterSchool.BAD);
    }

    private static void waits() {
        c.about("promise 25");
        LetterSchool x = Check.school("a=9/50", 2);
        x.tutor(15, 3);
        x.tutor(1, 1);
        c.due("at first", x.wait(0, 0), 3 + 5 + 3 + 1);
        x.post(1, 60, 2);
        x.habit(1, 0);
        c.due("by post and habit", x.wait(1, 0), 60 + 60 + 1);
        for (int i = 0; i < 3; i++) {
            x.give(Check.answered(x, 0, 0, 0), 0, 6);
        }
        c.due("by load", x.wait(0, 0), 3 + 5 + 3 + 2);
        x.mark(0, 1, 1, 1, 6);
        c.due("the third fits the day", x.wait(0, 0), 3 + 5 + 3 + 1);
        c.due("another tutor", x.wait(0, 1), 3 + 5 + 3 + 1);
        x.kin(1, 1);
        c.due("kin or not", x.wait(0, 1), 3 + 5 + 3 + 1);
        int[][] bads = {{-1, 0}, {2, 0}, {0, -1}, {0, 2}, {MIN, 0}, {0, MAX}};
        for (int[] b : bads) {
            c.due("bad", x.wait(b[0], b[1]), LetterSchool.BAD);
        }
    }

    private static void took() {
        c.about("promise 26");
        LetterSchool x = Check.school("a=9/50", 2);
        x.tutor(15, 3);
        x.post(1, 10, 0);
        c.due("nothing", x.took(0), LetterSchool.BAD);
        int a = x.send(1, 0, 2);
        c.due("a lesson", x.took(a), LetterSchool.CAST);
        x.answer(a, 15);
        c.due("an answer", x.took(a), LetterSchool.CAST);
        x.give(a, 0, 25);
        x.again(a, 26);
        c.due("again", x.took(a), LetterSchool.CAST);
        x.answer(a, 36);
        x.give(a, 0, 46);
        x.mark(a, 5, 5, 5, 50);
        c.due("from when it was first sent", x.took(a), 50 + 10 - 2);
        c.due("thing -1", x.took(-1), LetterSchool.BAD);
        c.due("thing 1", x.took(1), LetterSchool.BAD);
    }

    private static void shares(LetterSchool x, int day, int given, int days, int... tutors) {
        c.due("given", x.share(day, 0), given);
        c.due("days", x.share(day, 1), days);
        for (int i = 0; i < tutors.length; i++) {
            c.due("thing " + i, x.shareOf(day, i), tutors[i]);
        }
    }

    private static LetterSchool answers(int n) {
        LetterSchool x = Check.school("a=1/50;b=11/50;c=21/50", 6);
        for (int i = 0; i < n; i++) {
            Check.answered(x, i % 6, 0, 0);
        }
        return x;
    }

    private static void shareOfEqual() {
        c.about("promise 27, 28: of equals");
        LetterSchool x = answers(6);
        x.tutor(1, 1);
        x.tutor(1, 1);
        x.tutor(1, 1);
        shares(x, 6, 6, 9, 0, 0, 1, 1, 2, 2);
        shares(x, 5, 0, 0, -4, -4, -4, -4, -4, -4);
        LetterSchool y = answers(6);
        for (int i = 0; i < 6; i++) {
            y.tutor(1, 1);
        }
        shares(y, 6, 6, 6, 0, 1, 2, 3, 4, 5);
        LetterSchool z = answers(6);
        z.tutor(1, 2);
        z.tutor(1, 9);
        shares(z, 6, 6, 6, 0, 0, 1, 1, 1, 1);
        c.due("nothing is given by it", z.load(0) + z.load(1), 0);
    }

    private static void shareMost() {
        c.about("promise 27, 28: most");
        LetterSchool x = Check.school("a=1/50;b=11/50;c=21/50", 6);
        Check.answered(x, 0, 0, 0);
        Check.answered(x, 1, 1, 0);
        Check.answered(x, 2, 2, 0);
        x.tutor(2, 9);
        x.tutor(6, 1);
        shares(x, 6, 2, 2, -4, 0, 1);
        x.kin(0, 2);
        shares(x, 6, 2, 3, -4, 1, 1);
        x.kin(1, 6);
        shares(x, 6, 0, 0, -4, -4, -4);
        x.kin(1, 2);
        shares(x, 6, 1, 1, -4, -4, 1);
    }

    private static void shareLeast() {
        c.about("promise 27, 28: least");
        LetterSchool x = answers(9);
        x.tutor(1, 1);
        x.tutor(1, 2);
        for (int i = 6; i < 9; i++) {
            x.give(i, 1, 6);
        }
        c.due("load", x.load(1), 3);
        // Tutor 0: 1, 2, 3, ..; tutor 1: 2, 3, 3, 4, ..
        shares(x, 6, 6, 14, 0, 0, 0, 1, 1, 1);
        x.mark(6, 1, 1, 1, 6);
        // Tutor 1: 2, 2, 3, 3, ..
        shares(x, 6, 6, 13, 0, 0, 0, 1, 1, 1, -4, -4, -4);
    }

    private static void shareLimits() {
        c.about("promise 27, 28: limits");
        LetterSchool x = answers(20);
        x.tutor(1, 9);
        for (int i = 0; i < 10; i++) {
            x.give(i, 0, 6);
        }
        c.due("two more", x.share(6, 0), 2);
        c.due("in so many days", x.share(6, 1), 4);
        c.due("the first", x.shareOf(6, 10), 0);
        c.due("the second", x.shareOf(6, 11), 0);
        c.due("not the third", x.shareOf(6, 12), LetterSchool.NONE);
        x.kin(0, 1 << 4);
        c.due("it is the pupil's", x.thing(10, 1), 4);
        c.due("the first is kin", x.shareOf(6, 10), LetterSchool.NONE);
        c.due("then the third", x.shareOf(6, 12), 0);
        x.tutor(1, 1);
        c.due("six alone", x.share(6, 0), 6);
        c.due("the sixth", x.shareOf(6, 15), 1);
        c.due("not the seventh", x.shareOf(6, 16), LetterSchool.NONE);
        x.give(10, 1, 6);
        x.again(10, 6);
        c.due("what is again is none of them", x.shareOf(3999, 10), LetterSchool.NONE);
        c.due("the seventh is the sixth now", x.shareOf(6, 16), 1);
    }

    private static void shareAnswers() {
        c.about("promise 27, 28: wrong ones");
        LetterSchool x = answers(1);
        int[][] bads = {{-1, 0}, {4000, 0}, {6, -1}, {6, 2}, {MIN, 0}, {6, MAX}};
        for (int[] b : bads) {
            c.due("bad", x.share(b[0], b[1]), LetterSchool.BAD);
        }
        int[][] of = {{-1, 0}, {4000, 0}, {6, -1}, {6, 1}, {6, 80}, {MAX, 0}, {6, MIN}};
        for (int[] b : of) {
            c.due("bad of", x.shareOf(b[0], b[1]), LetterSchool.BAD);
        }
        c.due("no tutor", x.share(6, 0), 0);
        c.due("no tutor's days", x.share(6, 1), 0);
        c.due("no tutor for it", x.shareOf(6, 0), LetterSchool.NONE);
    }

    private static void offset() {
        c.about("promise 29");
        LetterSchool x = Check.school("a=1/100", 1);
        for (int i = 0; i < 4; i++) {
            x.tutor(15, 9);
        }
        int[][] bads = {{-1, 0, 0}, {4, 0, 0}, {0, -1, 0}, {0, 4, 0}, {1, 1, 0}, {0, 1, -1}, {0, 1, 4}, {MIN, 0, 0},
            {0, MAX, 0}};
        for (int[] b : bads) {
            c.due("bad", x.offset(b[0], b[1], b[2]), -1001);
        }
        c.due("none: how many", x.offset(0, 1, 0), 0);
        for (int what = 1; what < 4; what++) {
            c.due("none: " + what, x.offset(0, 1, what), -1004);
        }
        x.second(Check.marked(x, 0, 0, 0, 0, 60), 1, 50, 50, 50);
        x.second(Check.marked(x, 0, 0, 0, 1, 60), 0, 40, 40, 40);
        x.second(Check.marked(x, 0, 0, 0, 0, 30), 1, 31, 31, 31);
        x.second(Check.marked(x, 0, 0, 0, 2, 90), 1, 0, 0, 0);
        x.second(Check.marked(x, 0, 0, 0, 0, 90), 2, 0, 0, 0);
        Check.marked(x, 0, 0, 0, 0, 99);
        int[] want = {3, -11 / 3, -20, 10};
        int[] other = {3, 11 / 3, -10, 20};
        for (int what = 0; what < 4; what++) {
            c.due("0 less 1: " + what, x.offset(0, 1, what), want[what]);
            c.due("1 less 0: " + what, x.offset(1, 0, what), other[what]);
        }
        c.due("2 less 1", x.offset(2, 1, 1), 90);
        c.due("1 less 2", x.offset(1, 2, 2), -90);
        c.due("2 less 3", x.offset(2, 3, 1), -1004);
        x.second(Check.marked(x, 0, 0, 0, 3, 0), 2, 100, 100, 100);
        c.due("all that can be", x.offset(2, 3, 2), 100);
        c.due("less than nothing", x.offset(3, 2, 3), -100);
    }
}
