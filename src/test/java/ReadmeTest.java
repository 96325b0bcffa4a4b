import java.io.IOException;
import java.lang.reflect.Method;
import java.lang.reflect.Modifier;
import java.nio.file.Files;
import java.nio.file.Path;
import java.util.HashSet;
import java.util.Set;
import java.util.regex.Matcher;
import java.util.regex.Pattern;

/** The example of README.md: each call answers what the comment behind it says. */
public final class ReadmeTest {
    private static final Pattern CALL = Pattern.compile("hall\\.(\\w+)\\(([^)]*)\\);\\s*// (true|false|-?\\d+)\\b.*");

    public static void main(String[] args) throws IOException, ReflectiveOperationException {
        String readme = Files.readString(Path.of("README.md"));
        exampleAnswersAsItSays(readme);
        everyCallIsNamed(readme);
        everyTestIsTold(readme);
        Due.end();
    }

    private static void exampleAnswersAsItSays(String readme) throws ReflectiveOperationException {
        IceHall hall = new IceHall();
        Set<String> used = new HashSet<>();
        for (String line : example(readme).lines().toList()) {
            Matcher m = CALL.matcher(line);
            if (m.matches()) {
                used.add(m.group(1));
                Due.is(line, ask(hall, m.group(1), m.group(2).split(", ")), numberOf(m.group(3)));
            } else {
                boolean noCall = line.isBlank() || line.startsWith("//") || line.equals("IceHall hall = new IceHall();");
                Due.yes("no call, or one with its answer: " + line, noCall);
            }
        }
        Due.yes("most calls are shown", used.size() >= 15);
    }

    private static void everyCallIsNamed(String readme) {
        for (Method method : IceHall.class.getDeclaredMethods()) {
            if (Modifier.isPublic(method.getModifiers())) {
                Due.yes("README.md tells of " + method.getName(),
                        Pattern.compile("[`.]" + method.getName() + "\\(").matcher(readme).find());
            }
        }
    }

    private static void everyTestIsTold(String readme) throws IOException {
        try (var files = Files.list(Path.of("src/test/java"))) {
            for (Path file : files.toList()) {
                String name = file.getFileName().toString().replace(".java", "");
                String told = name.replaceFirst("^(Promise|Terms\\d).*", "$1");
                if (name.endsWith("Test")) {
                    Due.yes("README.md tells of " + name, readme.contains("`" + told));
                }
            }
        }
    }

    private static String example(String readme) {
        Matcher m = Pattern.compile("```java\\n(.*?)```", Pattern.DOTALL).matcher(readme);
        return m.find() ? m.group(1) : "";
    }

    private static long ask(IceHall hall, String name, String[] words) throws ReflectiveOperationException {
        Class<?>[] types = new Class<?>[words.length];
        Object[] numbers = new Object[words.length];
        for (int i = 0; i < words.length; i++) {
            types[i] = int.class;
            numbers[i] = Integer.decode(words[i]);
        }
        Object answer = IceHall.class.getMethod(name, types).invoke(hall, numbers);
        return numberOf(answer.toString());
    }

    private static long numberOf(String word) {
        return word.equals("true") ? 1 : word.equals("false") ? 0 : Long.parseLong(word);
    }
}
