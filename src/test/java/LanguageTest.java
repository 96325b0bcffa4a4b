import java.io.IOException;
import java.nio.file.Files;
import java.nio.file.Path;
import java.util.List;
import java.util.regex.Matcher;
import java.util.regex.Pattern;

/** Those rules of the language that can be seen in the text of IceHall.java. */
public final class LanguageTest {
    private static final String[] FORBIDDEN = {
        "\\bthrow\\b", "\\bthrows\\b", "\\btry\\b", "\\bcatch\\b", "\\bfinally\\b", "\\bsynchronized\\b",
        "\\bassert\\b", "\\bpackage\\b", "\\bimport\\b", "->", "::", "\\w+Exact\\b", "\\bstatic\\s*\\{",
        "\\bThread\\b", "\\bjava\\.", "\\bSystem\\.(?!arraycopy\\b)", "\\bvar\\b", "\\bObject\\b",
        "\\bwhile\\s*\\(true\\)",
        "\\bdouble\\b", "\\bfloat\\b", "\\[\\]\\s*\\[\\]", "\"\\s*\\+", "\\+\\s*\"", "\\bhashCode\\b", "\\btoString\\b",
        "\\bgetClass\\b", "\\bnative\\b", "\\bvolatile\\b", "\\btransient\\b", "@\\w+"};

    public static void main(String[] args) throws IOException {
        Path path = Path.of(args.length > 0 ? args[0] : "src/main/java/IceHall.java");
        String text = withoutComments(Files.readString(path));
        for (String word : FORBIDDEN) {
            Matcher m = Pattern.compile(word).matcher(text);
            Due.no("found what is ruled out: " + word, m.find());
        }
        methodsAreShort(text.lines().toList());
        Due.end();
    }

    private static String withoutComments(String text) {
        // Line ends stay, so that the length of a method is still that of the file.
        Matcher m = Pattern.compile("/\\*.*?\\*/|//[^\\n]*", Pattern.DOTALL).matcher(text);
        return m.replaceAll(found -> "\n".repeat((int) found.group().chars().filter(c -> c == '\n').count()));
    }

    private static void methodsAreShort(List<String> lines) {
        Pattern head = Pattern.compile("^( {4}| {8})(?=\\S)(?!static final|final|return|if|for|switch|else)"
                + "[\\w\\[\\]<> ]+\\(.*\\) \\{$");
        int methods = 0;
        for (int i = 0; i < lines.size(); i++) {
            Matcher m = head.matcher(lines.get(i));
            if (m.matches()) {
                int end = lines.subList(i, lines.size()).indexOf(m.group(1) + "}");
                Due.yes(lines.get(i).trim() + " has sixty lines at most", end > 0 && end < 60);
                methods++;
            }
        }
        Due.yes("methods were found", methods > 60);
    }
}
