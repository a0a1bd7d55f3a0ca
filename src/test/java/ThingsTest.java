/** Promises 12 to 21: the post, and things from being sent to being marked. */
public final class ThingsTest {
    private static final int MIN = Integer.MIN_VALUE;
    private static final int MAX = Integer.MAX_VALUE;
    private static final Check c = new Check();

    public static void main(String[] args) {
        post();
        postLoses();
        send();
        sendFull();
        answer();
        answerLeft();
        give();
        giveFull();
        mark();
        again();
        againLost();
        second();
        thing();
        marks();
        count();
        c.end();
    }

    /** Three pupils at places 0 .. 2 with lessons a .. d of names 1, 12, 23, 34, and tutors of all, of 0 .. 9, of all. */
    private static LetterSchool ready() {
        LetterSchool x = Check.school("a=1/50;b=12/50;c=23/50:a;d=34/50", 3);
        x.tutor(15, 2);
        x.tutor(1, 3);
        x.tutor(15, 1);
        return x;
    }

    private static void post() {
        c.about("promise 12");
        LetterSchool x = ready();
        c.due("three days at first", x.thing(x.send(0, 0, 5), 5), 8);
        c.due("told", x.post(0, 60, 0), 1);
        c.due("sixty days then", x.thing(x.send(0, 0, 5), 5), 65);
        c.due("what was sent stays", x.thing(0, 5), 8);
        c.due("other places stay", x.thing(x.send(1, 0, 5), 5), 8);
        c.due("one day", x.post(5, 1, 2), 1);
        c.due("each ninth", x.post(5, 1, 9), 1);
        int[][] bads = {{-1, 3, 0}, {6, 3, 0}, {0, 0, 0}, {0, 61, 0}, {0, -3, 0}, {0, 3, 1}, {0, 3, -1}, {0, 3, 10},
            {MIN, 3, 0}, {0, MIN, 0}, {0, 3, MIN}, {MAX, 3, 0}, {0, MAX, 0}, {0, 3, MAX}};
        for (int[] b : bads) {
            c.due("bad", x.post(b[0], b[1], b[2]), LetterSchool.BAD);
        }
        c.due("it stayed", x.thing(x.send(0, 0, 5), 5), 65);
    }

    private static void postLoses() {
        c.about("promise 12, what is lost");
        LetterSchool x = ready();
        x.post(0, 3, 3);
        int first = x.send(0, 0, 0);
        int second = x.send(0, 0, 0);
        c.due("another place counts for itself", x.thing(x.send(1, 0, 0), 0), 0);
        c.due("the third of the place, an answer", x.answer(first, 3), LetterSchool.NONE);
        c.due("the fourth", x.answer(second, 3), 6);
        x.give(second, 0, 6);
        c.due("the fifth, again", x.again(second, 6), 9);
        c.due("refused", x.send(0, 2, 0), LetterSchool.NOT);
        c.due("what is refused is not sent: the sixth is lost", x.answer(second, 9), LetterSchool.NONE);
        x.send(0, 0, 0);
        x.send(0, 0, 0);
        x.post(0, 3, 3);
        c.due("told anew it counts anew", x.thing(x.send(0, 0, 0), 0), 0);
        c.due("the second", x.thing(x.send(0, 0, 0), 0), 0);
        c.due("the third", x.thing(x.send(0, 0, 0), 0), 4);
        x.send(0, 0, 0);
        x.send(0, 0, 0);
        x.post(0, 3, 0);
        c.due("none is lost", x.thing(x.send(0, 0, 0), 0), 0);
        x.post(0, 3, 2);
        int kept = x.send(0, 0, 0);
        x.post(0, 3, 2);
        x.answer(kept, 3);
        x.give(kept, 0, 6);
        x.mark(kept, 50, 50, 50, 6);
        c.due("what is marked comes back surely", x.thing(kept, 0), 2);
        c.due("and counts for nothing in the post", x.thing(x.send(0, 1, 9), 0), 4);
        x.post(1, 3, 9);
        for (int i = 1; i <= 9; i++) {
            c.due("each ninth", x.thing(x.send(1, 0, 0), 0), i == 9 ? 4 : 0);
        }
    }

    private static void send() {
        c.about("promise 13");
        LetterSchool x = ready();
        x.pupil(1, 0, 7);
        c.due("pupil -1", x.send(-1, 0, 9), LetterSchool.BAD);
        c.due("pupil 4", x.send(4, 0, 9), LetterSchool.BAD);
        c.due("lesson -1", x.send(3, -1, 9), LetterSchool.BAD);
        c.due("no such lesson", x.send(3, 4, 9), LetterSchool.BAD);
        c.due("lesson 8", x.send(3, 8, 9), LetterSchool.BAD);
        c.due("day 4000", x.send(3, 0, 4000), LetterSchool.BAD);
        c.due("day -1", x.send(0, 0, -1), LetterSchool.BAD);
        c.due("a day ahead of the beginning", x.send(3, 0, 6), LetterSchool.BAD);
        c.due("bad ahead of not", x.send(3, 2, 6), LetterSchool.BAD);
        c.due("it may not be had", x.send(3, 2, 7), LetterSchool.NOT);
        c.due("first", x.send(3, 0, 7), 0);
        c.due("once more", x.send(3, 0, 7), 1);
        c.due("another", x.send(0, 3, 3999), 2);
        c.due("it comes beyond the last day", x.thing(2, 5), 4002);
        Check.marked(x, 3, 0, 8, 0, 50);
        c.due("what is passed may not be had", x.send(3, 0, 20), LetterSchool.NOT);
        c.due("what leans on it may, on whatever day", x.send(3, 2, 7), 4);
        x.leave(3, 10);
        c.due("the day ahead of leaving", x.send(3, 1, 9), 5);
        c.due("on that day", x.send(3, 1, 10), LetterSchool.NOT);
        c.due("later", x.send(3, 1, 11), LetterSchool.NOT);
        c.due("bad ahead of left", x.send(3, 5, 11), LetterSchool.BAD);
    }

    private static void sendFull() {
        c.about("promise 13, full");
        LetterSchool x = ready();
        x.post(0, 3, 2);
        for (int i = 0; i < 79; i++) {
            x.send(1, 0, 0);
        }
        c.due("the last", x.send(0, 0, 0), 79);
        c.due("full", x.send(0, 0, 0), LetterSchool.FULL);
        c.due("not ahead of full", x.send(0, 2, 0), LetterSchool.NOT);
        c.due("bad ahead of full", x.send(0, 4, 0), LetterSchool.BAD);
        c.due("what is refused is not counted by the post", x.answer(79, 3), LetterSchool.NONE);
        c.due("count", x.count(2), 80);
    }

    private static void answer() {
        c.about("promise 14");
        LetterSchool x = ready();
        x.post(1, 10, 2);
        c.due("nothing", x.answer(0, 5), LetterSchool.BAD);
        x.send(0, 0, 4);
        x.send(1, 0, 4);
        x.send(1, 0, 4);
        c.due("thing -1", x.answer(-1, 9), LetterSchool.BAD);
        c.due("thing 3", x.answer(3, 9), LetterSchool.BAD);
        c.due("thing 80", x.answer(80, 9), LetterSchool.BAD);
        c.due("day -1", x.answer(0, -1), LetterSchool.BAD);
        c.due("day 4000", x.answer(2, 4000), LetterSchool.BAD);
        c.due("lost", x.answer(2, 0), LetterSchool.CAST);
        c.due("not come", x.answer(0, 6), LetterSchool.NOT);
        c.due("come", x.answer(0, 7), 10);
        c.due("kind", x.thing(0, 0), 1);
        c.due("sent", x.thing(0, 4), 7);
        c.due("an answer", x.answer(0, 20), LetterSchool.NOT);
        x.give(0, 0, 10);
        c.due("a given one", x.answer(0, 20), LetterSchool.NOT);
        x.mark(0, 1, 1, 1, 10);
        c.due("a marked one", x.answer(0, 20), LetterSchool.NOT);
        x.post(1, 10, 2);
        c.due("later, by another post", x.answer(1, 100), 110);
        x.give(1, 0, 110);
        x.post(1, 20, 0);
        c.due("again", x.again(1, 111), 131);
        c.due("again has not come", x.answer(1, 130), LetterSchool.NOT);
        c.due("again has come", x.answer(1, 131), 151);
        c.due("it is an answer", x.thing(1, 0), 1);
        c.due("that was again once", x.thing(1, 7), 1);
    }

    private static void answerLeft() {
        c.about("promise 14, left");
        LetterSchool x = ready();
        x.send(0, 0, 0);
        x.send(0, 0, 0);
        x.send(1, 0, 0);
        x.leave(0, 9);
        c.due("the day ahead of leaving", x.answer(0, 8), 11);
        c.due("on that day", x.answer(1, 9), LetterSchool.NOT);
        c.due("later", x.answer(1, 3999), LetterSchool.NOT);
        c.due("another pupil", x.answer(2, 9), 12);
        c.due("what came is given all the same", x.give(0, 0, 11), 1);
        c.due("and marked", x.mark(0, 50, 50, 50, 11), 50);
    }

    private static void give() {
        c.about("promise 15");
        LetterSchool x = ready();
        x.post(2, 3, 2);
        int lesson = x.send(0, 0, 0);
        int a = Check.answered(x, 0, 0, 0);
        int b = Check.answered(x, 0, 1, 0);
        int kept = x.send(2, 0, 0);
        int lost = x.send(2, 0, 0);
        c.due("thing -1", x.give(-1, 0, 9), LetterSchool.BAD);
        c.due("no such thing", x.give(5, 0, 9), LetterSchool.BAD);
        c.due("tutor -1", x.give(a, -1, 9), LetterSchool.BAD);
        c.due("tutor 3", x.give(a, 3, 9), LetterSchool.BAD);
        c.due("day -1", x.give(a, 0, -1), LetterSchool.BAD);
        c.due("day 4000", x.give(lesson, 0, 4000), LetterSchool.BAD);
        c.due("a lesson", x.give(lesson, 0, 0), LetterSchool.CAST);
        c.due("a lost one", x.give(lost, 0, 9), LetterSchool.CAST);
        c.due("a lesson that came", x.give(kept, 0, 9), LetterSchool.CAST);
        c.due("not come", x.give(a, 0, 5), LetterSchool.NOT);
        c.due("another name", x.give(b, 1, 6), LetterSchool.NOT);
        x.kin(1, 1);
        c.due("kin", x.give(a, 1, 6), LetterSchool.NOT);
        x.kin(1, 6);
        c.due("no kin", x.give(a, 1, 6), 1);
        c.due("given", x.give(a, 0, 6), LetterSchool.NOT);
        c.due("given to the same", x.give(a, 1, 6), LetterSchool.NOT);
        c.due("the other", x.give(b, 0, 7), 1);
        c.due("tutor", x.thing(b, 6), 0);
        c.due("the other's tutor", x.thing(a, 6), 1);
        x.mark(a, 1, 1, 1, 7);
        c.due("marked", x.give(a, 0, 9), LetterSchool.NOT);
        x.again(b, 7);
        c.due("again", x.give(b, 0, 99), LetterSchool.NOT);
        x.answer(b, 10);
        c.due("answered again, not come", x.give(b, 0, 12), LetterSchool.NOT);
        c.due("answered again", x.give(b, 2, 13), 1);
    }

    private static void giveFull() {
        c.about("promise 15, full");
        LetterSchool x = ready();
        for (int i = 0; i < 14; i++) {
            Check.answered(x, 0, 0, 0);
        }
        for (int i = 0; i < 12; i++) {
            c.due("load", x.give(i, 0, 6), i + 1);
        }
        c.due("full", x.give(12, 0, 6), LetterSchool.FULL);
        c.due("it is not given", x.thing(12, 6), LetterSchool.NONE);
        c.due("not ahead of full", x.give(12, 0, 5), LetterSchool.NOT);
        c.due("another tutor", x.give(12, 1, 6), 1);
        x.mark(3, 1, 1, 1, 6);
        c.due("room by what is marked", x.give(13, 0, 6), 12);
    }

    private static void mark() {
        c.about("promise 16");
        LetterSchool x = ready();
        x.post(1, 3, 2);
        int a = Check.answered(x, 0, 0, 0);
        int lesson = x.send(1, 0, 0);
        int lost = x.send(1, 0, 0);
        c.due("not given", x.mark(a, 1, 1, 1, 9), LetterSchool.NOT);
        x.give(a, 2, 8);
        int[][] bads = {{-1, 0, 0, 0, 9}, {3, 0, 0, 0, 9}, {a, -1, 0, 0, 9}, {a, 101, 0, 0, 9}, {a, 0, -1, 0, 9},
            {a, 0, 101, 0, 9}, {a, 0, 0, -1, 9}, {a, 0, 0, 101, 9}, {a, 0, 0, 0, -1}, {a, 0, 0, 0, 4000},
            {lesson, 0, 0, 0, 4000}, {MAX, 0, 0, 0, 9}, {a, MIN, 0, 0, 9}};
        for (int[] b : bads) {
            c.due("bad", x.mark(b[0], b[1], b[2], b[3], b[4]), LetterSchool.BAD);
        }
        c.due("a lesson", x.mark(lesson, 1, 1, 1, 9), LetterSchool.CAST);
        c.due("a lost one", x.mark(lost, 1, 1, 1, 9), LetterSchool.CAST);
        c.due("given later", x.mark(a, 1, 1, 1, 7), LetterSchool.NOT);
        c.due("it is still given", x.load(2), 1);
        c.due("marked", x.mark(a, 31, 40, 1, 8), 25);
        c.due("load", x.load(2), 0);
        c.due("kind", x.thing(a, 0), 2);
        c.due("the tutor stays", x.thing(a, 6), 2);
        c.due("marked already", x.mark(a, 1, 1, 1, 9), LetterSchool.NOT);
        int b = Check.answered(x, 0, 0, 0);
        x.give(b, 0, 6);
        c.due("all", x.mark(b, 100, 100, 100, 3999), 100);
        int d = Check.answered(x, 0, 1, 0);
        x.give(d, 0, 6);
        c.due("cut", x.mark(d, 0, 3, 0, 6), 0);
        int e = Check.answered(x, 0, 3, 0);
        x.give(e, 0, 6);
        x.again(e, 6);
        c.due("again", x.mark(e, 0, 3, 0, 99), LetterSchool.NOT);
        x.answer(e, 9);
        c.due("answered again, not given", x.mark(e, 0, 3, 0, 99), LetterSchool.NOT);
        x.give(e, 0, 12);
        c.due("given again later", x.mark(e, 0, 3, 0, 11), LetterSchool.NOT);
        c.due("given again", x.mark(e, 1, 0, 2, 12), 1);
    }

    private static void again() {
        c.about("promise 17");
        LetterSchool x = ready();
        x.post(1, 3, 2);
        x.post(0, 7, 0);
        int a = Check.answered(x, 0, 0, 0);
        int lesson = x.send(1, 0, 0);
        int lost = x.send(1, 0, 0);
        c.due("not given", x.again(a, 20), LetterSchool.NOT);
        x.give(a, 1, 15);
        c.due("thing -1", x.again(-1, 20), LetterSchool.BAD);
        c.due("thing 3", x.again(3, 20), LetterSchool.BAD);
        c.due("day -1", x.again(a, -1), LetterSchool.BAD);
        c.due("day 4000", x.again(lesson, 4000), LetterSchool.BAD);
        c.due("a lesson", x.again(lesson, 20), LetterSchool.CAST);
        c.due("a lost one", x.again(lost, 20), LetterSchool.CAST);
        c.due("given later", x.again(a, 14), LetterSchool.NOT);
        c.due("load", x.load(1), 1);
        c.due("again", x.again(a, 15), 22);
        int[] want = {3, 0, 1, 0, 15, 22, LetterSchool.NONE, 1};
        for (int what = 0; what < 8; what++) {
            c.due("thing " + what, x.thing(a, what), want[what]);
        }
        c.due("no load", x.load(1), 0);
        c.due("again already", x.again(a, 30), LetterSchool.NOT);
        x.answer(a, 22);
        c.due("not given anew", x.again(a, 30), LetterSchool.NOT);
        x.give(a, 0, 29);
        c.due("twice", x.again(a, 29), 36);
        x.answer(a, 36);
        x.give(a, 0, 43);
        c.due("not thrice", x.again(a, 43), LetterSchool.NOT);
        c.due("load stays", x.load(0), 1);
        c.due("but it can be marked", x.mark(a, 60, 60, 60, 43), 60);
        c.due("marked", x.again(a, 43), LetterSchool.NOT);
        c.due("how often", x.thing(a, 7), 2);
    }

    private static void againLost() {
        c.about("promise 17, lost");
        LetterSchool x = ready();
        int a = Check.answered(x, 0, 0, 0);
        x.give(a, 0, 6);
        x.post(0, 3, 2);
        x.send(0, 0, 0);
        c.due("lost", x.again(a, 8), LetterSchool.NONE);
        int[] want = {4, 0, 1, 0, 8, LetterSchool.NONE, LetterSchool.NONE, 1};
        for (int what = 0; what < 8; what++) {
            c.due("thing " + what, x.thing(a, what), want[what]);
        }
        c.due("load", x.load(0), 0);
        c.due("a choice of what is lost", x.choose(a, 0, 1), LetterSchool.CAST);
    }

    private static void second() {
        c.about("promise 18");
        LetterSchool x = ready();
        x.post(1, 3, 2);
        int a = Check.marked(x, 0, 1, 0, 0, 60);
        int answer = Check.answered(x, 0, 0, 0);
        int lesson = x.send(1, 0, 0);
        int lost = x.send(1, 0, 0);
        int[][] bads = {{-1, 1, 0, 0, 0}, {4, 1, 0, 0, 0}, {a, -1, 0, 0, 0}, {a, 3, 0, 0, 0}, {a, 1, -1, 0, 0},
            {a, 1, 101, 0, 0}, {a, 1, 0, -1, 0}, {a, 1, 0, 101, 0}, {a, 1, 0, 0, -1}, {a, 1, 0, 0, 101},
            {lesson, 3, 0, 0, 0}};
        for (int[] b : bads) {
            c.due("bad", x.second(b[0], b[1], b[2], b[3], b[4]), LetterSchool.BAD);
        }
        c.due("a lesson", x.second(lesson, 1, 0, 0, 0), LetterSchool.CAST);
        c.due("a lost one", x.second(lost, 1, 0, 0, 0), LetterSchool.CAST);
        c.due("an answer", x.second(answer, 1, 0, 0, 0), LetterSchool.CAST);
        x.give(answer, 0, 6);
        x.again(answer, 6);
        c.due("again", x.second(answer, 1, 0, 0, 0), LetterSchool.CAST);
        c.due("the same tutor", x.second(a, 0, 0, 0, 0), LetterSchool.NOT);
        c.due("another", x.second(a, 1, 99, 2, 3), 50);
        c.due("two have", x.second(a, 2, 99, 2, 3), LetterSchool.NOT);
        c.due("the first marks stay", x.marks(a, 0), 60);
        c.due("the second marks", x.marks(a, 2), 50);
        c.due("the tutor stays", x.thing(a, 6), 0);
        c.due("no load", x.load(1), 0);
    }

    private static void thing() {
        c.about("promise 19");
        LetterSchool x = ready();
        x.send(0, 0, 1);
        x.send(2, 3, 5);
        int[] want = {0, 2, 34, 3, 5, 8, LetterSchool.NONE, 0};
        for (int what = 0; what < 8; what++) {
            c.due("thing " + what, x.thing(1, what), want[what]);
        }
        x.answer(1, 9);
        x.give(1, 2, 13);
        int[] then = {1, 2, 34, 3, 9, 12, 2, 0};
        for (int what = 0; what < 8; what++) {
            c.due("then " + what, x.thing(1, what), then[what]);
        }
        x.mark(1, 0, 0, 0, 14);
        c.due("marked it keeps the day it was sent", x.thing(1, 4), 9);
        c.due("marked it keeps the day it came", x.thing(1, 5), 12);
        int[][] bads = {{-1, 0}, {2, 0}, {80, 0}, {0, -1}, {0, 8}, {MIN, 0}, {MAX, 0}, {0, MIN}, {0, MAX}};
        for (int[] b : bads) {
            c.due("bad", x.thing(b[0], b[1]), LetterSchool.BAD);
        }
    }

    private static void marks() {
        c.about("promise 20");
        LetterSchool x = ready();
        x.post(1, 10, 0);
        x.post(2, 3, 2);
        int lesson = x.send(2, 0, 0);
        int lost = x.send(2, 0, 0);
        int a = Check.answered(x, 1, 0, 0);
        for (int what = 0; what < 4; what++) {
            c.due("an answer", x.marks(a, what), LetterSchool.CAST);
            c.due("a lesson", x.marks(lesson, what), LetterSchool.CAST);
            c.due("a lost one", x.marks(lost, what), LetterSchool.CAST);
        }
        x.give(a, 0, 20);
        c.due("a given one", x.marks(a, 0), LetterSchool.CAST);
        x.mark(a, 10, 20, 40, 25);
        int[] want = {20, 25, LetterSchool.NONE, 35};
        for (int what = 0; what < 4; what++) {
            c.due("marks " + what, x.marks(a, what), want[what]);
        }
        x.second(a, 1, 0, 0, 0);
        c.due("no marks, but marked by a second one", x.marks(a, 2), 0);
        c.due("thing -1", x.marks(-1, 0), LetterSchool.BAD);
        c.due("thing 3", x.marks(3, 0), LetterSchool.BAD);
        c.due("what -1", x.marks(a, -1), LetterSchool.BAD);
        c.due("what 4", x.marks(a, 4), LetterSchool.BAD);
        c.due("bad ahead of cast", x.marks(lesson, 4), LetterSchool.BAD);
    }

    private static void count() {
        c.about("promise 21");
        LetterSchool x = ready();
        x.post(1, 3, 2);
        x.send(0, 0, 0);
        x.send(0, 1, 0);
        x.send(0, 3, 0);
        Check.answered(x, 0, 0, 0);
        Check.answered(x, 0, 0, 0);
        x.give(4, 0, 6);
        Check.marked(x, 2, 0, 0, 0, 60);
        int again = Check.answered(x, 2, 1, 0);
        x.give(again, 0, 6);
        x.again(again, 6);
        x.send(1, 0, 0);
        x.send(1, 0, 0);
        x.send(1, 0, 0);
        x.send(1, 0, 0);
        int[] want = {3, 3, 11, 5, 2, 1, 1, 2};
        for (int what = 0; what < 8; what++) {
            c.due("count " + what, x.count(what), want[what]);
        }
        c.due("what -1", x.count(-1), LetterSchool.BAD);
        c.due("what 8", x.count(8), LetterSchool.BAD);
        c.due("what least", x.count(MIN), LetterSchool.BAD);
    }
}
