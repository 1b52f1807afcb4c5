import java.io.IOException;
import java.lang.reflect.Method;
import java.lang.reflect.Modifier;
import java.nio.file.Files;
import java.nio.file.Path;
import java.util.regex.Matcher;
import java.util.regex.Pattern;

/** README.md tells every call of the face with as many numbers as it takes, and its example answers what it says. */
public final class ReadmeTest {
    private static final Due DUE = new Due("readme");
    /** A call of the example on a line of its own, with the answer that its comment begins with. */
    private static final Pattern ASKED = Pattern.compile("(?m)^d\\.(\\w+)\\(([-\\d, ]*)\\); +// (-?\\d+)\\b");

    public static void main(String[] args) throws IOException, ReflectiveOperationException {
        String page = Files.readString(Path.of("README.md"));
        tellsEveryCall(page);
        answersAsItSays(page);
        DUE.is("the page says how to run the tests", page.contains("\n.ci/run\n") ? 1 : 0, 1);
        DUE.end();
    }

    private static void tellsEveryCall(String page) {
        for (Method call : DodgemDebate.class.getDeclaredMethods()) {
            if (Modifier.isPublic(call.getModifiers())) {
                int n = call.getParameterCount();
                String numbers = n == 0 ? "" : "\\w+(, \\w+){" + (n - 1) + "}";
                Pattern told = Pattern.compile("`" + call.getName() + "\\(" + numbers + "\\)`");
                DUE.is("the page tells " + call.getName(), told.matcher(page).find() ? 1 : 0, 1);
            }
        }
    }

    private static void answersAsItSays(String page) throws ReflectiveOperationException {
        DUE.is("cars of the example", page.contains("\"b00e5;b30w3\"") ? 1 : 0, 1);
        DUE.is("steers of the example", page.contains("\"c0l\"") ? 1 : 0, 1);
        DUE.is("events of the example", page.contains("\nd.event(1, 6, 1); ") ? 1 : 0, 1);
        DodgemDebate d = Due.debate("b00e5;b30w3", "c0l");
        d.event(1, 6, 1);
        Matcher asked = ASKED.matcher(page);
        int found = 0;
        while (asked.find()) {
            if (!asked.group(1).equals("event")) {
                found++;
                DUE.is(asked.group(), answer(d, asked.group(1), asked.group(2).split(", ")),
                        Long.parseLong(asked.group(3)));
            }
        }
        DUE.is("answers that the example tells", found, 8);
    }

    private static long answer(DodgemDebate d, String name, String[] numbers) throws ReflectiveOperationException {
        Object[] values = new Object[numbers.length];
        Class<?>[] types = new Class<?>[numbers.length];
        for (int i = 0; i < numbers.length; i++) {
            values[i] = Integer.parseInt(numbers[i]);
            types[i] = int.class;
        }
        return ((Number) DodgemDebate.class.getMethod(name, types).invoke(d, values)).longValue();
    }
}
