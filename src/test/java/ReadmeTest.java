import java.io.IOException;
import java.lang.reflect.Method;
import java.nio.file.Files;
import java.nio.file.Path;
import java.util.HashSet;
import java.util.Set;
import java.util.regex.Matcher;
import java.util.regex.Pattern;

/** README.md: its example answers as it says, and its table names every call. */
public final class ReadmeTest {
    private static final Pattern CALL = Pattern.compile("court\\.(\\w+)\\((.*?)\\); *// ([\\w=]+)");

    public static void main(String[] args) throws IOException, ReflectiveOperationException {
        String text = Files.readString(Path.of("README.md"));
        ShadowCourt court = new ShadowCourt();
        Matcher found = CALL.matcher(text);
        int calls = 0;
        while (found.find()) {
            int got = call(court, found.group(1), found.group(2).split(", "));
            if (!found.group(1).equals("feed")) {
                Due.is(found.group(1), got, numberOf(found.group(3)));
            }
            calls++;
        }
        Due.is("calls of the example", calls, 8);
        Set<String> named = new HashSet<>();
        Matcher name = Pattern.compile("`(\\w+)`").matcher(text);
        while (name.find()) {
            named.add(name.group(1));
        }
        for (Method method : ShadowCourt.class.getMethods()) {
            if (method.getDeclaringClass() == ShadowCourt.class) {
                Due.yes("README.md names " + method.getName(), named.contains(method.getName()));
            }
        }
        Due.end("ReadmeTest");
    }

    private static int call(ShadowCourt court, String name, String[] words) throws ReflectiveOperationException {
        Class<?>[] types = new Class<?>[words.length];
        Object[] numbers = new Object[words.length];
        for (int i = 0; i < words.length; i++) {
            types[i] = int.class;
            numbers[i] = Integer.decode(words[i]);
        }
        return numberOf(ShadowCourt.class.getMethod(name, types).invoke(court, numbers).toString());
    }

    private static int numberOf(String answer) {
        return answer.equals("true") ? 1 : answer.equals("false") ? 0 : Integer.parseInt(answer);
    }
}
