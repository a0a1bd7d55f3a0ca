import java.lang.reflect.Method;
import java.util.ArrayList;
import java.util.Arrays;
import java.util.Comparator;
import java.util.List;
import java.util.Map;
import java.util.Random;
import java.util.TreeMap;

/** Runs of calls by lot (the same ones each time), on LetterSchool and on PlainSchool: their answers must be the same. */
public final class PlainTest {
    private static final int RUNS = 400;
    private static final int CALLS = 400;
    private static final int[] ODD = {Integer.MIN_VALUE, Integer.MAX_VALUE, -1, -2, 1 << 16, 4000, 101, 80, 31, 21, 12, 9, 8};
    private static final Check c = new Check();
    private static final Map<String, Method> here = methods(LetterSchool.class);
    private static final Map<String, Method> plain = methods(PlainSchool.class);

    private final Random lot;
    private final LetterSchool school = new LetterSchool();
    private final PlainSchool beside = new PlainSchool();
    private final List<String> calls = new ArrayList<>();
    private boolean wrong = false;
    private int today = 0;

    private PlainTest(long seed) {
        lot = new Random(seed);
    }

    public static void main(String[] args) throws Exception {
        for (int run = 0; run < RUNS; run++) {
            c.about("run " + run);
            PlainTest one = new PlainTest(run);
            one.prepare();
            for (int i = 0; i < CALLS && !one.wrong; i++) {
                one.call();
            }
            one.lookAtAll();
            if (one.wrong) {
                one.calls.forEach(System.out::println);
                break;
            }
        }
        c.end();
    }

    private static Map<String, Method> methods(Class<?> type) {
        Map<String, Method> all = new TreeMap<>();
        Arrays.stream(LetterSchool.class.getDeclaredMethods()).filter(m -> java.lang.reflect.Modifier.isPublic(m.getModifiers()))
            .sorted(Comparator.comparing(Method::getName)).forEach(m -> {
                try {
                    Method own = type.getDeclaredMethod(m.getName(), m.getParameterTypes());
                    own.setAccessible(true);
                    all.put(m.getName(), own);
                } catch (NoSuchMethodException e) {
                    throw new IllegalStateException(e);
                }
            });
        return all;
    }

    private int both(String name, Object... args) throws Exception {
        int got = (Integer) here.get(name).invoke(school, args);
        int want = (Integer) plain.get(name).invoke(beside, args);
        String call = name + Arrays.toString(args);
        calls.add(call + " " + want);
        c.due(call, got, want);
        wrong |= got != want;
        return want;
    }

    // ---- what comes by lot

    private int upTo(int most) {
        return lot.nextInt(most + 1);
    }

    /** A number of 0 .. most, but now and then one that is none such. */
    private int some(int most) {
        if (lot.nextInt(60) == 0) {
            return ODD[lot.nextInt(ODD.length)];
        }
        return lot.nextInt(40) == 0 ? (lot.nextBoolean() ? -1 : most + 1) : upTo(most);
    }

    private int pupil() throws Exception {
        return some(Math.max(0, (Integer) plain.get("count").invoke(beside, 0) - 1));
    }

    private int tutor() throws Exception {
        return some(Math.max(0, (Integer) plain.get("count").invoke(beside, 1) - 1));
    }

    private int thing() throws Exception {
        return some(Math.max(0, (Integer) plain.get("count").invoke(beside, 2) - 1));
    }

    /** A day about today, which goes on slowly. */
    private int day() {
        today = Math.min(3999, today + (lot.nextInt(4) == 0 ? 1 : 0));
        return switch (lot.nextInt(12)) {
            case 0 -> some(3999);
            case 1 -> Math.max(0, today - upTo(10));
            case 2 -> today + upTo(10);
            default -> today + upTo(2);
        };
    }

    private String number(int most) {
        int n = lot.nextInt(50) == 0 ? most + 1 : upTo(most);
        return (lot.nextInt(30) == 0 ? "0" : "") + n;
    }

    private String blank() {
        return lot.nextInt(25) == 0 ? " " : "";
    }

    private String claim(int depth, int lessons) {
        String deny = lot.nextInt(4) == 0 ? "!" + blank() : "";
        if (lot.nextInt(4) == 0 && depth < 7) {
            return deny + "(" + cases(depth + 1, lessons) + ")" + blank();
        }
        String letter = "" + (char) ('a' + (lot.nextInt(60) == 0 ? upTo(8) : upTo(lessons - 1)));
        return deny + letter + blank() + (lot.nextInt(3) == 0 ? ">" + blank() + number(lot.nextInt(3) == 0 ? 100 : 60) : "");
    }

    private String cases(int depth, int lessons) {
        StringBuilder text = new StringBuilder(claim(depth, lessons));
        while (lot.nextInt(3) == 0) {
            text.append(lot.nextBoolean() ? "&" : "|").append(blank()).append(claim(depth, lessons));
        }
        return text.toString();
    }

    private String editionText() {
        int lessons = lot.nextInt(30) == 0 ? 9 : 1 + upTo(7);
        StringBuilder text = new StringBuilder();
        int names = lot.nextBoolean() ? 39 : 5;
        int turn = lot.nextInt(8);
        for (int i = 0; i < lessons; i++) {
            String letter = "" + (char) ('a' + (lot.nextInt(80) == 0 ? upTo(8) : lessons == 8 ? (i + turn) % 8 : i));
            text.append(i == 0 ? "" : ";").append(blank()).append(letter).append(blank()).append("=").append(number(names))
                .append(blank()).append("/").append(number(lot.nextInt(4) == 0 ? 100 : 50)).append(blank());
            if (lot.nextInt(3) == 0) {
                text.append(":").append(cases(0, Math.min(8, lessons)));
            }
        }
        return text.toString();
    }

    private String feesText() {
        StringBuilder text = new StringBuilder();
        int clauses = lot.nextInt(20) == 0 ? 7 : 1 + upTo(5);
        for (int i = 0; i < clauses; i++) {
            boolean part = lot.nextBoolean();
            text.append(i == 0 ? "" : ";").append(blank()).append(part ? "p" : "b").append(blank())
                .append(lot.nextInt(20) == 0 ? number(999) : number(60)).append(blank()).append("=")
                .append(number(part ? 99999 : 100)).append(blank());
        }
        return text.toString();
    }

    /** Types a text, now and then with a sign changed, left out or put in. */
    private void typeText(String whole) throws Exception {
        StringBuilder text = new StringBuilder(whole);
        if (lot.nextInt(6) == 0) {
            int at = lot.nextInt(text.length());
            char sign = "abhip=/:;!()&|>0195 ~".charAt(lot.nextInt(21));
            switch (lot.nextInt(3)) {
                case 0 -> text.setCharAt(at, sign);
                case 1 -> text.deleteCharAt(at);
                default -> text.insert(at, sign);
            }
        }
        for (int i = 0; i < text.length(); i += 8) {
            String piece = text.substring(i, Math.min(text.length(), i + 8));
            both("type", Check.word(piece) | (piece.length() < 8 ? lot.nextLong() << 8 * piece.length() : 0), piece.length());
        }
    }

    private void prepare() throws Exception {
        int editions = 1 + upTo(3);
        for (int i = 0; i < editions; i++) {
            typeText(editionText());
            both("edition", upTo(1), upTo(3));
        }
        for (int i = 0; i < 4; i++) {
            both("pupil", upTo(2), upTo(1), upTo(4));
            both("tutor", lot.nextBoolean() ? 15 : upTo(15), 1 + upTo(8));
        }
        typeText(feesText());
        both("fees", upTo(1));
        today = 4;
    }

    private void call() throws Exception {
        int way = lot.nextInt(100);
        if (way < 16) {
            sendSome();
        } else if (way < 50) {
            bringOn();
        } else if (way < 62) {
            ask();
        } else if (way < 76) {
            changeSome();
        } else if (way < 88) {
            copy();
        } else {
            other();
        }
    }

    private void sendSome() throws Exception {
        int pupil = pupil();
        int may = (Integer) plain.get("may").invoke(beside, pupil, 0);
        int lesson = may > 0 && lot.nextInt(5) > 0 ? Integer.numberOfTrailingZeros(may) : some(7);
        both("send", pupil, lesson, day());
    }

    /** Brings a thing on its way, mostly by the call that is due. */
    private void bringOn() throws Exception {
        int thing = thing();
        int kind = (Integer) plain.get("thing").invoke(beside, thing, 0);
        int tutor = (Integer) plain.get("thing").invoke(beside, thing, 6);
        int comes = (Integer) plain.get("thing").invoke(beside, thing, 5);
        int when = lot.nextInt(4) == 0 || comes < 0 ? day() : comes + upTo(2);
        int step = lot.nextInt(6) == 0 ? upTo(4) : kind == 0 || kind == 3 ? 0 : tutor < 0 ? 1 : kind == 2 ? 4 : 2 + upTo(1);
        switch (step) {
            case 0 -> both("answer", thing, when);
            case 1 -> both("give", thing, tutor(), when);
            case 2 -> both("mark", thing, some(100), some(100), some(100), when);
            case 3 -> both("again", thing, when);
            default -> both("second", thing, tutor(), some(100), some(100), some(100));
        }
    }

    private void ask() throws Exception {
        switch (lot.nextInt(12)) {
            case 0 -> both("best", pupil(), some(7), day());
            case 1 -> both("may", pupil(), some(2));
            case 2 -> both("lean", pupil(), some(7));
            case 3 -> both("thing", thing(), some(7));
            case 4 -> both("marks", thing(), some(3));
            case 5 -> both("took", thing());
            case 6 -> both("wait", pupil(), tutor());
            case 7 -> both("share", day(), some(1));
            case 8 -> both("shareOf", day(), thing());
            case 9 -> both("offset", tutor(), tutor(), some(3));
            case 10 -> both("due", pupil(), day());
            default -> both("who", pupil(), some(6));
        }
    }

    private void changeSome() throws Exception {
        switch (lot.nextInt(10)) {
            case 0 -> both("post", some(2), lot.nextInt(20) == 0 ? some(61) : 1 + upTo(5), lot.nextBoolean() ? 0 : some(9));
            case 1 -> both("habit", pupil(), some(60));
            case 2 -> both("tutor", some(15), some(9));
            case 3 -> both("kin", tutor(), lot.nextBoolean() ? 0 : some(4095));
            case 4 -> both("pupil", some(5), some(3), day());
            case 5 -> {
                if (lot.nextInt(6) == 0) {
                    both("leave", pupil(), day());
                }
            }
            case 6 -> both("move", pupil(), some(lot.nextInt(5) == 0 ? 3 : 1), day());
            case 7, 8 -> both("pay", pupil(), lot.nextInt(20) == 0 ? some(100000) : 1 + upTo(30000), day());
            default -> both("load", tutor());
        }
    }

    private void copy() throws Exception {
        switch (lot.nextInt(9)) {
            case 0 -> both("key", some(39), some(19), some(4));
            case 1, 2 -> both("choose", thing(), some(19), some(4));
            case 3, 4 -> both("like", thing(), thing());
            case 5 -> both("limit", some(lot.nextBoolean() ? 2 : 19));
            case 6 -> both("doubted", some(lot.nextInt(3) == 0 ? 20 : 1));
            default -> {
                int sheet = upTo(3);
                int lane = upTo(2);
                int n = upTo(4);
                both("sheet", sheet, lane, 15 + upTo(10));
                for (int i = 0; i < 6; i++) {
                    both("item", sheet, lane, upTo(24), upTo(4));
                }
                both("choices", thing(), sheet, lane, n, 20 - upTo(8));
            }
        }
    }

    private void other() throws Exception {
        switch (lot.nextInt(9)) {
            case 0 -> {
                typeText(editionText());
                both("edition", some(lot.nextInt(4) == 0 ? 3 : 1), day());
            }
            case 1 -> {
                typeText(feesText());
                both("fees", some(lot.nextInt(4) == 0 ? 3 : 1));
            }
            case 2 -> both("sheet", some(3), some(2), some(30));
            case 3 -> both("drop", some(3));
            case 4 -> both("item", some(3), some(2), some(25), lot.nextBoolean() ? upTo(4) : lot.nextInt());
            case 5 -> both("choices", thing(), some(3), some(2), some(10), some(20));
            case 6 -> both("count", some(7));
            case 7 -> both("told", some(3), some(5), some(2));
            default -> both("lesson", some(3), some(5), some(7), some(2));
        }
    }

    // ---- all that can be seen

    private void lookAtAll() throws Exception {
        for (int i = -1; i < 13 && !wrong; i++) {
            for (int what = 0; what < 8; what++) {
                both("who", i, what);
                both("best", i, what, 3999);
                both("best", i, what, today);
                both("lean", i, what);
                both("may", i, what);
                both("count", what);
            }
            both("due", i, today);
            both("due", i, 3999);
            both("load", i);
        }
        for (int i = 0; i < 81 && !wrong; i++) {
            for (int what = 0; what < 8; what++) {
                both("thing", i, what);
                both("marks", i, what);
            }
            both("took", i);
            both("doubted", i);
        }
        both("share", today, 0);
        both("share", 3999, 1);
        for (int i = 0; i < 36 && !wrong; i++) {
            both("offset", i / 6, i % 6, 1);
            both("told", i / 6, i % 6, 2);
            both("lesson", i / 6, i % 6, lot.nextInt(8), lot.nextInt(3));
        }
        both("type", (long) ' ', 1);
    }
}
