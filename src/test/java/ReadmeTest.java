import java.nio.charset.StandardCharsets;
import java.nio.file.Files;
import java.nio.file.Path;
import java.util.regex.Matcher;
import java.util.regex.Pattern;

/** The example of README.md: its calls are made as they stand there; the number behind each is its answer. */
public final class ReadmeTest {
    private static final Pattern SIGNS = Pattern.compile("String signs = \"([^\"]*)\";");
    private static final Pattern CALL = Pattern.compile("farm\\.(\\w+)\\(([-\\d, ]*)\\);\\s*// (-?\\d+)\\b");

    public static void main(String[] args) throws Exception {
        String readme = new String(Files.readAllBytes(Path.of("README.md")), StandardCharsets.ISO_8859_1);
        int begin = readme.indexOf("```java");
        int end = readme.indexOf("```", begin + 7);
        Due.is("README.md has an example", begin >= 0 && end > begin ? 1 : 0, 1);
        String example = readme.substring(begin, end);
        Matcher signs = SIGNS.matcher(example);
        Due.is("README.md tells a farm", signs.find() ? 1 : 0, 1);
        RindDates farm = new RindDates();
        Due.text(farm, 0, signs.group(1));
        int calls = 0;
        Matcher call = CALL.matcher(example);
        while (call.find()) {
            calls++;
            Due.is("README.md: " + call.group(1) + "(" + call.group(2) + ")", answer(farm, call.group(1), call.group(2)),
                Long.parseLong(call.group(3)));
        }
        Due.is("README.md: calls with an answer", calls, example.split("\nfarm\\.\\w+\\([^\n]*//").length - 1);
        Due.close("ReadmeTest");
    }

    private static long answer(RindDates farm, String name, String numbers) throws Exception {
        String[] told = numbers.isEmpty() ? new String[0] : numbers.split(",\\s*");
        Class<?>[] types = new Class<?>[told.length];
        Object[] given = new Object[told.length];
        for (int k = 0; k < told.length; k++) {
            types[k] = int.class;
            given[k] = Integer.valueOf(told[k]);
        }
        return ((Number) RindDates.class.getMethod(name, types).invoke(farm, given)).longValue();
    }
}
