import java.nio.file.Files;
import java.nio.file.Path;
import java.util.Arrays;
import java.util.regex.Matcher;
import java.util.regex.Pattern;

/** Whether the calls that README.md shows are answered as it says there. */
public final class ReadmeTest {
    private static final Pattern CALL = Pattern.compile("(?m)^school\\.(\\w+)\\(([^)]*)\\);\\s*// (-?\\d+): ");
    private static final Pattern REFUSAL = Pattern.compile("(?m)^\\| `([A-Z]+)` \\| (-\\d+) \\|");

    public static void main(String[] args) throws Exception {
        String page = Files.readString(Path.of("README.md"));
        Check c = new Check();
        c.about("README.md");
        calls(c, page);
        refusals(c, page);
        c.end();
    }

    private static void calls(Check c, String page) {
        Run r = new Run(c);
        int calls = 0;
        Matcher m = CALL.matcher(page);
        while (m.find()) {
            long[] numbers = Arrays.stream(m.group(2).split(", ")).mapToLong(n -> Long.decode(n.replace("L", ""))).toArray();
            r.due(Integer.parseInt(m.group(3)), m.group(1), numbers);
            calls++;
        }
        c.due("how many calls it shows", calls, page.lines().filter(l -> l.startsWith("school.")).count());
        c.holds("it shows calls", calls > 0);
    }

    private static void refusals(Check c, String page) throws ReflectiveOperationException {
        int refusals = 0;
        Matcher m = REFUSAL.matcher(page);
        while (m.find()) {
            c.due(m.group(1), Integer.parseInt(m.group(2)), LetterSchool.class.getField(m.group(1)).getInt(null));
            refusals++;
        }
        c.due("how many refusals it tells", refusals, LetterSchool.class.getFields().length);
    }
}
