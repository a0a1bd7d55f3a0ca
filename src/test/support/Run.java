import java.lang.reflect.Method;
import java.util.ArrayList;
import java.util.Arrays;
import java.util.HashMap;
import java.util.List;
import java.util.Map;

/**
 * A run of calls on a school, each by its name. What was called is kept, so that the run can be made again on a new school:
 * whether a call changed something is seen by two such schools, one with that call and one without, of which all is asked.
 */
final class Run {
    /** The document promises nothing beyond so many calls of one object. */
    static final int CALLS = 512;

    private static final Map<String, Method> METHODS = methods();

    private record Call(String name, long[] numbers) {
        @Override
        public String toString() {
            String all = Arrays.toString(numbers);
            return name + "(" + all.substring(1, all.length() - 1) + ")";
        }
    }

    private final Check check;
    private final List<Call> kept = new ArrayList<>();
    private final LetterSchool school = new LetterSchool();
    private int calls = 0;
    private Probe seen = null;

    Run(Check check) {
        this.check = check;
    }

    private static Map<String, Method> methods() {
        Map<String, Method> all = new HashMap<>();
        for (Method m : LetterSchool.class.getDeclaredMethods()) {
            all.put(m.getName(), m);
        }
        return all;
    }

    private static int answer(LetterSchool x, Call call) {
        Method m = METHODS.get(call.name);
        Object[] args = new Object[call.numbers.length];
        for (int i = 0; i < args.length; i++) {
            if (m.getParameterTypes()[i] == long.class) {
                args[i] = call.numbers[i];
            } else {
                args[i] = Math.toIntExact(call.numbers[i]);
            }
        }
        try {
            return (Integer) m.invoke(x, args);
        } catch (ReflectiveOperationException e) {
            throw new IllegalStateException(call + " did not answer", e);
        }
    }

    private LetterSchool anew(Call... more) {
        LetterSchool x = new LetterSchool();
        for (Call call : kept) {
            answer(x, call);
        }
        for (Call call : more) {
            answer(x, call);
        }
        return x;
    }

    private int onward(Call call) {
        calls++;
        check.holds("no more than 512 calls are made", calls <= CALLS);
        return answer(school, call);
    }

    /** All that can be seen of the school as it is. */
    private Probe seen() {
        if (seen == null) {
            check.holds("all can be looked at within 512 calls", kept.size() + 17 + Probe.MOST <= CALLS);
            seen = new Probe(this::anew);
        }
        return seen;
    }

    /** A number that no call answers. */
    Run is(String what, int got, int want) {
        check.due(what, got, want);
        return this;
    }

    /** Makes a call: what it answers. */
    int does(String name, long... numbers) {
        Call call = new Call(name, numbers);
        kept.add(call);
        seen = null;
        return onward(call);
    }

    /** Makes a call that is answered as due. */
    Run due(int want, String name, long... numbers) {
        int got = does(name, numbers);
        check.due(new Call(name, numbers).toString(), got, want);
        return this;
    }

    /** Makes a call that is answered as due and changes nothing: it is refused. */
    Run refused(int want, String name, long... numbers) {
        Call call = new Call(name, numbers);
        check.due(call.toString(), onward(call), want);
        String unlike = seen().unlike(new Probe(() -> anew(call)));
        check.holds(call + " changed nothing: " + unlike, unlike == null);
        return this;
    }

    /** Makes a call that asks: it is answered as due and changes nothing. */
    Run asked(int want, String name, long... numbers) {
        return refused(want, name, numbers);
    }

    /** One of a call's numbers goes from least to most: those two are not BAD, and what lies beyond them is. */
    Run goes(int which, long least, long most, String name, long... numbers) {
        int bad = name.equals("offset") ? -1001 : -1;
        for (long good : new long[] {least, most}) {
            Call call = new Call(name, with(numbers, which, good));
            check.holds(call + " is not BAD", answer(anew(), call) != bad);
        }
        for (long beyond : new long[] {least - 1, most + 1, Integer.MIN_VALUE, Integer.MAX_VALUE}) {
            refused(bad, name, with(numbers, which, beyond));
        }
        return this;
    }

    private static long[] with(long[] numbers, int which, long number) {
        long[] all = numbers.clone();
        all[which] = number;
        return all;
    }

    // ---- texts

    private static List<Call> typing(String text) {
        List<Call> all = new ArrayList<>();
        for (int i = 0; i < text.length(); i += 8) {
            String piece = text.substring(i, Math.min(text.length(), i + 8));
            all.add(new Call("type", new long[] {Check.word(piece), piece.length()}));
        }
        return all;
    }

    /** Types a text on the tape. */
    Run types(String text) {
        for (Call call : typing(text)) {
            does(call.name, call.numbers);
        }
        return this;
    }

    Run edition(int want, int course, int from, String text) {
        return types(text).due(want, "edition", course, from);
    }

    Run fees(int want, int course, String text) {
        return types(text).due(want, "fees", course);
    }

    /** A text, typed on the empty tape, that a call can't read: it answers the place, and nothing is left of the text. */
    Run fault(int place, String text, String name, long... numbers) {
        return same(-20 - place, text, name, numbers);
    }

    /** A text, typed on the empty tape, and a call that reads it: answered as due, with the tape empty and all as it was. */
    Run same(int want, String text, String name, long... numbers) {
        List<Call> more = typing(text);
        Call read = new Call(name, numbers);
        check.due("'" + text + "': " + read, answer(anew(more.toArray(new Call[0])), read), want);
        more.add(read);
        String unlike = seen().unlike(new Probe(() -> anew(more.toArray(new Call[0]))));
        check.holds("behind '" + text + "' the tape is empty and all is as it was: " + unlike, unlike == null);
        return this;
    }

    /** A run on a new school, about the same sentence. */
    Run another() {
        return new Run(check);
    }

    // ---- schools that stand ready

    /** An edition of course 0 from day 0, and so many pupils of it from day 0, at places 0, 1, .. 5, 0, .. */
    Run school(int pupils, String text) {
        edition(0, 0, 0, text);
        for (int i = 0; i < pupils; i++) {
            due(i, "pupil", i % 6, 0, 0);
        }
        return this;
    }

    /** A tutor of all names. */
    Run tutors(int n, int pace) {
        for (int i = 0; i < n; i++) {
            does("tutor", 15, pace);
        }
        return this;
    }

    private int number(int thing, int what) {
        return onward(new Call("thing", new long[] {thing, what}));
    }

    /** A lesson is sent on a day, and answered as soon as it has come. */
    int answered(int pupil, int lesson, int day) {
        int thing = does("send", pupil, lesson, day);
        does("answer", thing, number(thing, 5));
        return thing;
    }

    /** .. and given to a tutor as soon as it has come back. */
    int given(int pupil, int lesson, int day, int tutor) {
        int thing = answered(pupil, lesson, day);
        does("give", thing, tutor, number(thing, 5));
        return thing;
    }

    /** .. and marked on that day. */
    int marked(int pupil, int lesson, int day, int tutor, int marks) {
        int thing = given(pupil, lesson, day, tutor);
        does("mark", thing, marks, marks, marks, number(thing, 5));
        return thing;
    }

    /** .. or to be answered again, from that day on. */
    int again(int pupil, int lesson, int day, int tutor) {
        int thing = given(pupil, lesson, day, tutor);
        does("again", thing, number(thing, 5));
        return thing;
    }

    /** A lesson that is lost on its way to a pupil, by a post that lost nothing till then and loses nothing later. */
    int lost(int pupil, int lesson, int day) {
        int place = onward(new Call("who", new long[] {pupil, 0}));
        does("post", place, 3, 2);
        does("send", pupil, lesson, day);
        int thing = does("send", pupil, lesson, day);
        does("post", place, 3, 0);
        return thing;
    }
}
