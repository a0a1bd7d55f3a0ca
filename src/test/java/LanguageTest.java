import java.lang.reflect.Constructor;
import java.lang.reflect.Field;
import java.lang.reflect.Method;
import java.lang.reflect.Modifier;
import java.nio.file.Files;
import java.nio.file.Path;
import java.util.ArrayList;
import java.util.Arrays;
import java.util.List;
import java.util.Set;
import java.util.TreeSet;
import java.util.regex.Matcher;
import java.util.regex.Pattern;
import java.util.stream.Collectors;

/** The face of the class, and the rules of LANGUAGE.md that can be seen from the class or from its text. */
public final class LanguageTest {
    private static final Check c = new Check();

    private static final String CONSTANTS = "BAD -1, NOT -2, FULL -3, NONE -4, NULL -11, CAST -12, INDEX -13, SIZE -14";

    private static final String FACE = """
        type(long, int) edition(int, int) told(int, int, int) lesson(int, int, int, int) pupil(int, int, int) who(int, int)
        habit(int, int) best(int, int, int) may(int, int) lean(int, int) post(int, int, int) send(int, int, int)
        answer(int, int) give(int, int, int) mark(int, int, int, int, int) again(int, int) second(int, int, int, int, int)
        thing(int, int) marks(int, int) count(int) tutor(int, int) kin(int, int) load(int) wait(int, int) took(int)
        share(int, int) shareOf(int, int) offset(int, int, int) key(int, int, int) choose(int, int, int) like(int, int)
        limit(int) doubted(int) fees(int) pay(int, int, int) due(int, int) leave(int, int) move(int, int, int)
        sheet(int, int, int) drop(int) item(int, int, int, int) choices(int, int, int, int, int)""";

    private static final String[] NO_WORDS = {"throw", "throws", "try", "catch", "finally", "synchronized", "assert", "native",
        "volatile", "protected", "Object", "Thread", "Random", "Exception", "Error", "currentTimeMillis", "nanoTime",
        "getClass", "hashCode", "toString", "Iterator", "Collections", "var"};

    public static void main(String[] args) throws Exception {
        String source = withoutComments(Files.readString(Path.of("src/main/java/LetterSchool.java")));
        face();
        members();
        classes();
        words(source);
        library(source);
        lengths(source);
        room();
        c.end();
    }

    private static void face() throws Exception {
        c.about("the face");
        Class<?> type = LetterSchool.class;
        c.holds("the class is public and final", Modifier.isPublic(type.getModifiers()) && Modifier.isFinal(type.getModifiers()));
        Set<String> due = new TreeSet<>(Arrays.asList(FACE.replaceAll("\\s+", " ").split("(?<=\\)) ")));
        Set<String> got = new TreeSet<>();
        for (Method m : type.getDeclaredMethods()) {
            if (!Modifier.isPrivate(m.getModifiers())) {
                got.add(m.getName() + Arrays.stream(m.getParameterTypes()).map(Class::getName).collect(Collectors.joining(", ", "(", ")")));
                c.holds(m + " is public and of an object", Modifier.isPublic(m.getModifiers()) && !Modifier.isStatic(m.getModifiers()));
                c.holds(m + " answers an int", m.getReturnType() == int.class);
            }
        }
        c.holds("its methods are those of the document: " + got, due.equals(got));
        Constructor<?>[] made = type.getDeclaredConstructors();
        c.holds("it has one constructor, without parameters", made.length == 1 && made[0].getParameterCount() == 0
            && Modifier.isPublic(made[0].getModifiers()));
        Set<String> constants = new TreeSet<>();
        for (Field f : type.getDeclaredFields()) {
            if (!Modifier.isPrivate(f.getModifiers())) {
                c.holds(f + " is a constant", f.getModifiers() == (Modifier.PUBLIC | Modifier.STATIC | Modifier.FINAL));
                constants.add(f.getName() + " " + f.getInt(null));
            }
        }
        c.holds("its constants are those of the document", constants.equals(new TreeSet<>(Arrays.asList(CONSTANTS.split(", ")))));
    }

    private static List<Class<?>> allClasses() {
        List<Class<?>> all = new ArrayList<>(List.of(LetterSchool.class));
        all.addAll(Arrays.asList(LetterSchool.class.getDeclaredClasses()));
        return all;
    }

    private static void members() {
        c.about("rules 1, 3, 5, 11: members");
        Set<String> names = Arrays.stream(LetterSchool.class.getMethods()).map(Method::getName).collect(Collectors.toSet());
        for (Class<?> type : allClasses()) {
            for (Method m : type.getDeclaredMethods()) {
                boolean ofFace = type == LetterSchool.class && Modifier.isPublic(m.getModifiers());
                c.holds(m + " bears no name of a public one", ofFace || !names.contains(m.getName()));
                c.holds(m + " has at most seven parameters", m.getParameterCount() <= 7);
            }
            int fields = 0;
            for (Field f : type.getDeclaredFields()) {
                if (Modifier.isStatic(f.getModifiers())) {
                    c.holds(f + " is a final number", Modifier.isFinal(f.getModifiers()) && f.getType().isPrimitive());
                } else {
                    fields++;
                    c.holds(f + " is private", Modifier.isPrivate(f.getModifiers()));
                }
                c.holds(f + " has one dimension", !f.getType().getName().startsWith("[[["));
            }
            c.holds(type + " has some twenty fields at most", fields <= 20);
        }
    }

    private static void classes() {
        c.about("rules 2, 11: classes");
        List<Class<?>> all = allClasses();
        c.holds("there are some twelve classes at most", all.size() <= 12);
        for (Class<?> type : all.subList(1, all.size())) {
            c.holds(type + " is static and not public", Modifier.isStatic(type.getModifiers()) && !Modifier.isPublic(type.getModifiers()));
            c.holds(type + " has no class inside", type.getDeclaredClasses().length == 0);
        }
    }

    private static String withoutComments(String text) {
        return text.replaceAll("(?s)/\\*.*?\\*/", "").replaceAll("//[^\n]*", "");
    }

    private static void words(String source) {
        c.about("rules 2, 6, 13: words");
        for (String word : NO_WORDS) {
            c.holds("'" + word + "' is nowhere", !Pattern.compile("\\b" + word + "\\b").matcher(source).find());
        }
        c.holds("there is no lambda and no method reference", !source.contains("->") && !source.contains("::"));
        c.holds("there is no package line", !Pattern.compile("(?m)^\\s*package\\b").matcher(source).find());
        c.holds("all signs are 9, 10 or 32 to 126", source.chars().allMatch(s -> s == 9 || s == 10 || s >= 32 && s < 127));
    }

    private static void library(String source) {
        c.about("rule 4: the library");
        Matcher imported = Pattern.compile("import ([^;]+);").matcher(source);
        while (imported.find()) {
            c.holds(imported.group(1) + " may be used", Set.of("java.util.Arrays", "java.util.ArrayList", "java.util.List").contains(imported.group(1)));
        }
        Matcher called = Pattern.compile("\\b(System|Arrays|Math|Integer|Long|String|StringBuilder)\\.(\\w+)").matcher(source);
        Set<String> free = Set.of("System.arraycopy", "Arrays.fill", "Arrays.copyOf", "Arrays.copyOfRange", "Math.min", "Math.max",
            "Math.abs", "Math.floorDiv", "Math.floorMod", "Integer.bitCount", "Integer.compare", "Integer.min", "Integer.max");
        while (called.find()) {
            c.holds(called.group() + " may be used", free.contains(called.group()));
        }
    }

    /** A method begins on a line that ends with { at its class's indent, and ends with } at the same. */
    private static void lengths(String source) {
        c.about("rule 11: lengths");
        String[] lines = source.split("\n");
        for (String indent : new String[] {"    ", "        "}) {
            int begun = -1;
            for (int i = 0; i < lines.length; i++) {
                if (lines[i].matches(indent + "\\w[^=]*\\(.*\\{") && !lines[i].matches("\\s*(if|for|while|switch|else)\\b.*")) {
                    begun = i;
                } else if (lines[i].equals(indent + "}") && begun >= 0) {
                    c.holds("'" + lines[begun].trim() + "' has at most sixty lines", i - begun < 60);
                    begun = -1;
                }
            }
        }
    }

    /** What 512 of the dearest calls make, as bytes: far below what one room of 7.3 million elements takes. */
    private static void room() {
        c.about("rule 12: room");
        var threads = (com.sun.management.ThreadMXBean) java.lang.management.ManagementFactory.getThreadMXBean();
        long ahead = threads.getCurrentThreadAllocatedBytes();
        LetterSchool x = Check.school("a=1/50;b=2/50;c=3/50;d=4/50;e=5/50;f=6/50;g=7/50;h=8/50:a&b&c&d&e&f&g", 6);
        for (int i = 0; i < 6; i++) {
            x.tutor(15, 1);
            Check.answered(x, i, i, 0);
        }
        for (int i = 0; i < 100; i++) {
            c.due("lean", x.lean(0, 7), 8);
            c.due("share", x.share(6, 1), 6);
            c.due("doubted", x.doubted(0), LetterSchool.NONE);
            c.due("edition", x.edition(0, 0), -20);
            c.due("sheet", x.sheet(0, 2, 30), 30);
        }
        long made = threads.getCurrentThreadAllocatedBytes() - ahead;
        c.holds("512 calls make less than 200,000 bytes: " + made, made < 200_000);
    }
}
