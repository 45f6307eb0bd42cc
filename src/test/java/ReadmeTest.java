import java.io.IOException;
import java.lang.reflect.Method;
import java.nio.file.Files;
import java.nio.file.Path;
import java.util.Arrays;
import java.util.regex.Matcher;
import java.util.regex.Pattern;

/** Makes the calls that README.md shows, in their order, and compares the answers that it tells. */
public final class ReadmeTest {
    private static final Pattern HEIRS = Pattern.compile("for \\(char c : \"([^\"]*)\"\\.toCharArray\\(\\)\\) will\\.type\\(c\\);");
    private static final Pattern CALL = Pattern.compile("will\\.([a-z]+)\\(([-0-9, ]*)\\); +// (-?[0-9]+) .*");

    public static void main(String[] args) throws IOException, ReflectiveOperationException {
        DogJudge will = new DogJudge();
        int calls = 0;
        int wrong = 0;
        for (String line : Files.readAllLines(Path.of("README.md"))) {
            Matcher heirs = HEIRS.matcher(line);
            if (heirs.lookingAt()) for (char c : heirs.group(1).toCharArray()) will.type(c);
            Matcher call = CALL.matcher(line);
            if (!call.matches()) continue;
            calls++;
            long got = answer(will, call.group(1), call.group(2));
            if (got == Long.parseLong(call.group(3))) continue;
            wrong++;
            System.out.println("README.md says " + line + ", but it is " + got);
        }
        System.out.println(calls + " calls of README.md, " + wrong + " answers are not as due");
        if (wrong != 0 || calls == 0) System.exit(1);
    }

    private static long answer(DogJudge will, String name, String numbers) throws ReflectiveOperationException {
        Object[] given = numbers.isEmpty() ? new Object[0]
            : Arrays.stream(numbers.split(", ")).map(Integer::valueOf).toArray();
        Class<?>[] types = new Class<?>[given.length];
        Arrays.fill(types, int.class);
        Method method = DogJudge.class.getMethod(name, types);
        return ((Number) method.invoke(will, given)).longValue();
    }
}
