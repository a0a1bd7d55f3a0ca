/** Promises 30 to 34: keys, choices, likeness and doubt. */
public final class CopiesTest {
    private static final int MIN = Integer.MIN_VALUE;
    private static final int MAX = Integer.MAX_VALUE;
    private static final Check c = new Check();

    public static void main(String[] args) {
        key();
        choose();
        like();
        limit();
        doubted();
        c.end();
    }

    private static void key() {
        c.about("promise 30");
        LetterSchool x = new LetterSchool();
        c.due("at first", x.key(39, 19, 4), 0);
        c.due("then", x.key(39, 19, 1), 4);
        c.due("the one ahead", x.key(39, 18, 0), 0);
        c.due("of another name", x.key(38, 19, 0), 0);
        c.due("first of all", x.key(0, 0, 2), 0);
        c.due("first of all then", x.key(0, 0, 2), 2);
        int[][] bads = {{-1, 0, 0}, {40, 0, 0}, {0, -1, 0}, {0, 20, 0}, {0, 0, -1}, {0, 0, 5}, {MIN, 0, 0}, {0, MAX, 0},
            {0, 0, MIN}};
        for (int[] b : bads) {
            c.due("bad", x.key(b[0], b[1], b[2]), LetterSchool.BAD);
        }
    }

    private static void choose() {
        c.about("promise 31");
        LetterSchool x = Check.school("a=1/50", 2);
        x.tutor(15, 9);
        x.post(1, 3, 2);
        int lesson = x.send(1, 0, 0);
        int lost = x.send(1, 0, 0);
        int a = Check.answered(x, 0, 0, 0);
        int[][] bads = {{-1, 0, 0}, {3, 0, 0}, {a, -1, 0}, {a, 20, 0}, {a, 0, -1}, {a, 0, 5}, {MAX, 0, 0}, {a, MIN, 0},
            {a, 0, MAX}, {lesson, 20, 0}};
        for (int[] b : bads) {
            c.due("bad", x.choose(b[0], b[1], b[2]), LetterSchool.BAD);
        }
        c.due("a lesson", x.choose(lesson, 0, 0), LetterSchool.CAST);
        c.due("a lost one", x.choose(lost, 0, 0), LetterSchool.CAST);
        c.due("at first", x.choose(a, 19, 4), 0);
        c.due("then", x.choose(a, 19, 3), 4);
        x.give(a, 0, 6);
        x.again(a, 6);
        c.due("again it stays", x.choose(a, 19, 3), 3);
        x.answer(a, 9);
        c.due("answered again it stays", x.choose(a, 19, 2), 3);
        x.give(a, 0, 12);
        x.mark(a, 9, 9, 9, 12);
        c.due("marked it stays", x.choose(a, 19, 1), 2);
        c.due("and can change", x.choose(a, 19, 1), 1);
    }

    private static void like() {
        c.about("promise 32");
        LetterSchool x = Check.school("a=1/50;b=2/50;c=1/60", 3);
        x.tutor(15, 9);
        x.post(2, 3, 2);
        int a = Check.answered(x, 0, 0, 0);
        int b = Check.answered(x, 1, 0, 0);
        int own = Check.answered(x, 0, 0, 0);
        int other = Check.answered(x, 1, 1, 0);
        int byName = Check.answered(x, 1, 2, 0);
        int lesson = x.send(2, 0, 0);
        int lost = x.send(2, 0, 0);
        c.due("as the key", x.like(a, b), 0);
        for (int i = 0; i < 20; i++) {
            x.choose(a, i, 1 + i % 4);
            x.choose(b, i, i < 15 ? 1 + i % 4 : 0);
        }
        c.due("fifteen", x.like(a, b), 15);
        c.due("the other way", x.like(b, a), 15);
        x.key(1, 0, 1);
        x.key(2, 1, 2);
        c.due("less one as the key", x.like(a, b), 14);
        x.key(1, 3, 4);
        c.due("less two as the key", x.like(a, b), 13);
        x.key(1, 3, 0);
        for (int i = 0; i < 20; i++) {
            x.choose(byName, i, 1 + i % 4);
        }
        c.due("of another lesson, of one name", x.like(a, byName), 19);
        c.due("one", x.like(a, a), LetterSchool.BAD);
        c.due("one lesson", x.like(lesson, lesson), LetterSchool.BAD);
        c.due("thing -1", x.like(-1, a), LetterSchool.BAD);
        c.due("thing 7", x.like(a, 7), LetterSchool.BAD);
        c.due("bad ahead of cast", x.like(lesson, 7), LetterSchool.BAD);
        c.due("a lesson", x.like(a, lesson), LetterSchool.CAST);
        c.due("a lost one", x.like(lost, a), LetterSchool.CAST);
        c.due("cast ahead of not", x.like(lesson, lost), LetterSchool.CAST);
        c.due("unlike names", x.like(a, other), LetterSchool.NOT);
        c.due("one pupil", x.like(a, own), LetterSchool.NOT);
        x.give(a, 0, 6);
        x.mark(a, 9, 9, 9, 6);
        x.give(b, 0, 6);
        x.again(b, 6);
        c.due("marked and again", x.like(a, b), 14);
    }

    private static void limit() {
        c.about("promise 33");
        LetterSchool x = new LetterSchool();
        c.due("at first", x.limit(0), 5);
        c.due("then", x.limit(19), 0);
        c.due("20", x.limit(20), LetterSchool.BAD);
        c.due("-1", x.limit(-1), LetterSchool.BAD);
        c.due("least", x.limit(MIN), LetterSchool.BAD);
        c.due("it stayed", x.limit(5), 19);
    }

    private static void choose(LetterSchool x, int thing, int n) {
        for (int i = 0; i < 20; i++) {
            x.choose(thing, i, i < n ? 3 : 0);
        }
    }

    private static void doubted() {
        c.about("promise 34");
        LetterSchool x = Check.school("a=1/50;b=2/50", 4);
        x.tutor(15, 9);
        for (int i = 0; i < 6; i++) {
            Check.answered(x, i % 3, i == 4 ? 1 : 0, 0);
            choose(x, i, i == 5 ? 6 : 5);
        }
        // Things 0, 1, 2, 3, 5 are of pupils 0, 1, 2, 0, 2 and of one name; 4 is of another.
        c.due("five is not more than five", x.doubted(0), LetterSchool.NONE);
        choose(x, 1, 8);
        c.due("one pair", x.doubted(0), 80 + 5);
        c.due("no second", x.doubted(1), LetterSchool.NONE);
        x.limit(4);
        int[] want = {1, 2, 5, 80 + 2, 80 + 3, 80 + 5, 160 + 3, 240 + 5};
        for (int i = 0; i < want.length; i++) {
            c.due("doubted " + i, x.doubted(i), want[i]);
        }
        c.due("no more", x.doubted(want.length), LetterSchool.NONE);
        c.due("far more", x.doubted(MAX), LetterSchool.NONE);
        c.due("-1", x.doubted(-1), LetterSchool.BAD);
        c.due("least", x.doubted(MIN), LetterSchool.BAD);
        x.key(1, 0, 3);
        c.due("the key takes one place from all but the longest", x.doubted(0), 80 + 5);
        c.due("none but that", x.doubted(1), LetterSchool.NONE);
        x.give(1, 0, 6);
        x.mark(1, 9, 9, 9, 6);
        c.due("marked it is doubted still", x.doubted(0), 80 + 5);
        x.give(5, 0, 6);
        x.again(5, 6);
        c.due("again it is doubted still", x.doubted(0), 80 + 5);
        x.post(2, 3, 2);
        x.send(2, 0, 9);
        x.answer(5, 9);
        c.due("lost it is doubted no more", x.doubted(0), LetterSchool.NONE);
    }
}
