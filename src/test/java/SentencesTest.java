import java.io.IOException;
import java.lang.reflect.Method;
import java.nio.file.Files;
import java.nio.file.Path;
import java.util.regex.Matcher;
import java.util.regex.Pattern;

/** Every test that SENTENCES.md names for a sentence of the document is there. */
public final class SentencesTest {
    public static void main(String[] args) throws IOException {
        Matcher m = Pattern.compile("`(\\w+Test)\\.(\\w+)`").matcher(Files.readString(Path.of("src/test/SENTENCES.md")));
        int named = 0;
        while (m.find()) {
            Due.yes(m.group() + " is a test", isThere(m.group(1), m.group(2)));
            named++;
        }
        Due.yes("tests are named", named > 80);
        Due.end();
    }

    private static boolean isThere(String test, String method) {
        try {
            for (Method found : Class.forName(test).getDeclaredMethods()) {
                if (found.getName().equals(method)) {
                    return true;
                }
            }
        } catch (ClassNotFoundException none) {
            return false;
        }
        return false;
    }
}
