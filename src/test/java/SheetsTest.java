/** Promises 40 to 43: sheets, and choices that come by them. */
public final class SheetsTest {
    private static final int MIN = Integer.MIN_VALUE;
    private static final int MAX = Integer.MAX_VALUE;
    private static final Check c = new Check();

    public static void main(String[] args) {
        sheet();
        drop();
        item();
        lowestBits();
        choices();
        choicesRefused();
        c.end();
    }

    private static void sheet() {
        c.about("promise 40");
        LetterSchool x = new LetterSchool();
        int[][] bads = {{-1, 0, 1}, {4, 0, 1}, {0, -1, 1}, {0, 3, 1}, {0, 0, 31}, {0, 0, MAX}, {MIN, 0, 1}, {0, MAX, 1},
            {4, 0, -1}, {0, 3, -1}};
        for (int[] b : bads) {
            c.due("bad", x.sheet(b[0], b[1], b[2]), LetterSchool.BAD);
        }
        c.due("n -1", x.sheet(0, 0, -1), LetterSchool.SIZE);
        c.due("n least", x.sheet(3, 2, MIN), LetterSchool.SIZE);
        c.due("nothing is there yet", x.drop(0), LetterSchool.NULL);
        c.due("empty", x.sheet(0, 0, 0), 0);
        c.due("30", x.sheet(3, 2, 30), 30);
        c.due("the first is there", x.item(0, 0, 0, 1), LetterSchool.INDEX);
        c.due("the last item", x.item(3, 2, 29, 1), 1);
        c.due("refused, it stays", x.sheet(3, 0, -1), LetterSchool.SIZE);
        c.due("refused, its lane stays", x.item(3, 2, 29, 1), 1);
        c.due("another lane", x.sheet(3, 1, 5), 5);
        c.due("no longer of the lane", x.item(3, 2, 0, 1), LetterSchool.CAST);
        c.due("of the new lane", x.item(3, 1, 4, 1), 1);
    }

    private static void drop() {
        c.about("promise 41");
        LetterSchool x = new LetterSchool();
        x.sheet(1, 1, 17);
        x.sheet(2, 0, 0);
        c.due("sheet -1", x.drop(-1), LetterSchool.BAD);
        c.due("sheet 4", x.drop(4), LetterSchool.BAD);
        c.due("nothing", x.drop(0), LetterSchool.NULL);
        c.due("17", x.drop(1), 17);
        c.due("nothing now", x.drop(1), LetterSchool.NULL);
        c.due("no item now", x.item(1, 1, 0, 0), LetterSchool.NULL);
        c.due("an empty one is no nothing", x.drop(2), 0);
        c.due("it is nothing then", x.drop(2), LetterSchool.NULL);
    }

    private static void item() {
        c.about("promise 42");
        LetterSchool x = new LetterSchool();
        x.sheet(0, 0, 3);
        x.sheet(1, 1, 3);
        x.sheet(2, 2, 3);
        int[][] bads = {{-1, 0, 0}, {4, 0, 0}, {0, -1, 0}, {0, 3, 0}, {3, 3, 0}, {0, MIN, 99}, {MAX, 0, 0}};
        for (int[] b : bads) {
            c.due("bad", x.item(b[0], b[1], b[2], 1), LetterSchool.BAD);
        }
        c.due("nothing", x.item(3, 0, 99, 1), LetterSchool.NULL);
        for (int sheet = 0; sheet < 3; sheet++) {
            for (int lane = 0; lane < 3; lane++) {
                c.due("lane", x.item(sheet, lane, 0, 1), sheet == lane ? 1 : LetterSchool.CAST);
                c.due("cast ahead of index", x.item(sheet, lane, 3, 1), sheet == lane ? LetterSchool.INDEX : LetterSchool.CAST);
            }
        }
        c.due("the last", x.item(0, 0, 2, 1), 1);
        c.due("-1", x.item(0, 0, -1, 1), LetterSchool.INDEX);
        c.due("least", x.item(0, 0, MIN, 1), LetterSchool.INDEX);
        c.due("greatest", x.item(0, 0, MAX, 1), LetterSchool.INDEX);
    }

    private static LetterSchool answer() {
        LetterSchool x = Check.school("a=1/50", 1);
        Check.answered(x, 0, 0, 0);
        return x;
    }

    private static void lowestBits() {
        c.about("promise 42, lowest bits");
        int[] values = {4, 260, 65540, -252, -65532, 128, 32768, -1, 5, MIN, MAX};
        for (int value : values) {
            int[] kept = {(byte) value, (short) value, value};
            for (int lane = 0; lane < 3; lane++) {
                LetterSchool x = answer();
                x.sheet(0, lane, 1);
                x.item(0, lane, 0, value);
                boolean choice = kept[lane] >= 0 && kept[lane] <= 4;
                c.due(value + " in lane " + lane, x.choices(0, 0, lane, 0, 1), choice ? 1 : LetterSchool.NOT);
                c.due(value + " of lane " + lane, x.choose(0, 0, 0), choice ? kept[lane] : 0);
            }
        }
    }

    private static void choices() {
        c.about("promise 43");
        LetterSchool x = answer();
        x.tutor(15, 9);
        x.sheet(2, 2, 30);
        for (int i = 0; i < 30; i++) {
            x.item(2, 2, i, (i + 1) % 5);
        }
        c.due("twenty", x.choices(0, 2, 2, 0, 20), 20);
        for (int i = 0; i < 20; i++) {
            c.due("place " + i, x.choose(0, i, (i + 1) % 5), (i + 1) % 5);
        }
        c.due("the last three", x.choices(0, 2, 2, 27, 3), 3);
        int[] want = {3, 4, 0, 4, 0};
        for (int i = 0; i < want.length; i++) {
            c.due("then place " + i, x.choose(0, i, 0), want[i]);
        }
        c.due("none", x.choices(0, 2, 2, 30, 0), 0);
        x.give(0, 0, 6);
        x.again(0, 6);
        c.due("of what is again", x.choices(0, 2, 2, 1, 1), 1);
        x.answer(0, 9);
        x.give(0, 0, 12);
        x.mark(0, 1, 1, 1, 12);
        c.due("they stay", x.choose(0, 0, 0), 2);
        c.due("of what is marked", x.choices(0, 2, 2, 2, 1), 1);
        c.due("they stand", x.choose(0, 0, 0), 3);
        x.sheet(2, 2, 30);
        c.due("a new row is of zeros", x.choices(0, 2, 2, 0, 20), 20);
        c.due("zero", x.choose(0, 0, 0), 0);
    }

    private static void choicesRefused() {
        c.about("promise 43, refused");
        LetterSchool x = answer();
        x.pupil(1, 0, 0);
        x.post(1, 3, 2);
        int lesson = x.send(1, 0, 0);
        int lost = x.send(1, 0, 0);
        x.sheet(0, 1, 22);
        x.item(0, 1, 21, 5);
        x.item(0, 1, 0, -1);
        x.item(0, 1, 1, 4);
        int[][] bads = {{-1, 0, 1, 0, 1}, {3, 0, 1, 0, 1}, {0, -1, 1, 0, 1}, {0, 4, 1, 0, 1}, {0, 0, -1, 0, 1},
            {0, 0, 3, 0, 1}, {0, 0, 1, 0, -1}, {0, 0, 1, 0, 21}, {lesson, 0, 1, 0, 21}, {lost, 9, 1, 0, 1},
            {0, 0, 1, 0, MIN}, {0, 0, 1, 0, MAX}};
        for (int[] b : bads) {
            c.due("bad", x.choices(b[0], b[1], b[2], b[3], b[4]), LetterSchool.BAD);
        }
        c.due("a lesson", x.choices(lesson, 3, 0, 0, 1), LetterSchool.CAST);
        c.due("a lost one", x.choices(lost, 3, 0, 0, 1), LetterSchool.CAST);
        c.due("nothing", x.choices(0, 3, 0, 99, 1), LetterSchool.NULL);
        c.due("another lane", x.choices(0, 0, 2, 99, 1), LetterSchool.CAST);
        c.due("beyond the end", x.choices(0, 0, 1, 3, 20), LetterSchool.INDEX);
        c.due("ahead of the first", x.choices(0, 0, 1, -1, 2), LetterSchool.INDEX);
        c.due("far ahead", x.choices(0, 0, 1, MIN, 1), LetterSchool.INDEX);
        c.due("far beyond", x.choices(0, 0, 1, MAX, 20), LetterSchool.INDEX);
        c.due("none from beyond the end", x.choices(0, 0, 1, 23, 0), LetterSchool.INDEX);
        c.due("none from ahead of the first", x.choices(0, 0, 1, -1, 0), LetterSchool.INDEX);
        c.due("5 is no choice", x.choices(0, 0, 1, 2, 20), LetterSchool.NOT);
        c.due("-1 is no choice", x.choices(0, 0, 1, 0, 2), LetterSchool.NOT);
        for (int i = 0; i < 20; i++) {
            c.due("what is refused changes nothing", x.choose(0, i, 0), 0);
        }
        c.due("the one between", x.choices(0, 0, 1, 1, 20), 20);
        c.due("it is there", x.choose(0, 0, 0), 4);
    }
}
