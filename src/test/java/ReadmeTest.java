import java.io.File;
import java.lang.reflect.Method;
import java.lang.reflect.Modifier;
import java.nio.file.Files;
import java.nio.file.Path;
import java.util.regex.Matcher;
import java.util.regex.Pattern;

/** README.md: its example answers what it says, and it names each call and each test. Runs where README.md is. */
public final class ReadmeTest {
    private static final Check CHECK = new Check();
    private static final Pattern BLOCK = Pattern.compile("(?s)```java\n(.*?)```");
    private static final Pattern TEXT = Pattern.compile("String text = \"([^\"]*)\";");
    private static final Pattern CALL = Pattern.compile("seat\\.(\\w+)\\(([-0-9, ]*)\\);\\s*// (-?\\d+)\\b.*");

    public static void main(String[] args) throws Exception {
        String page = Files.readString(Path.of("README.md"));
        example(page);
        namesEachCall(page);
        namesEachTest(page);
        CHECK.close();
    }

    private static void example(String page) throws Exception {
        Matcher block = BLOCK.matcher(page);
        CHECK.holds("there is an example", block.find());
        SwordSeat seat = new SwordSeat();
        int calls = 0;
        for (String row : block.group(1).split("\n")) {
            Matcher text = TEXT.matcher(row);
            if (text.find()) {
                Check.feedAll(seat, text.group(1));
            }
            Matcher call = CALL.matcher(row);
            boolean answers = row.contains("//");
            CHECK.holds("can be run: " + row, !answers || call.matches());
            if (answers && call.matches()) {
                calls++;
                CHECK.due(row, answer(seat, call.group(1), call.group(2)), Long.parseLong(call.group(3)));
            }
        }
        CHECK.holds("the example has calls", calls > 0);
        CHECK.holds("there is one example", !block.find());
    }

    private static long answer(SwordSeat seat, String name, String numbers) throws Exception {
        String[] given = numbers.isEmpty() ? new String[0] : numbers.split(", ");
        Class<?>[] types = new Class<?>[given.length];
        Object[] values = new Object[given.length];
        for (int i = 0; i < given.length; i++) {
            types[i] = int.class;
            values[i] = Integer.valueOf(given[i]);
        }
        return ((Number) SwordSeat.class.getMethod(name, types).invoke(seat, values)).longValue();
    }

    private static void namesEachCall(String page) {
        for (Method m : SwordSeat.class.getDeclaredMethods()) {
            if (Modifier.isPublic(m.getModifiers())) {
                CHECK.holds("README.md names " + m.getName(), page.contains("`" + m.getName() + "`"));
            }
        }
    }

    private static void namesEachTest(String page) {
        File[] files = new File("src/test/java").listFiles();
        CHECK.holds("the tests are found", files != null && files.length > 0);
        for (File file : files) {
            String name = file.getName().replace(".java", "");
            CHECK.holds("README.md names " + name, page.contains("`" + name + "`"));
        }
    }
}
