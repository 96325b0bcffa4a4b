import java.util.regex.Matcher;
import java.util.regex.Pattern;

/** Rights as a second reader takes them: the form by a pattern, the numbers apart from it. */
final class NaiveRights {
    private static final String CLAUSE = "(?:w[0-9]{1,4}-[0-9]{1,4}|d[0-9]{1,7}|k[0-9]{1,4}|[nfc][0-9]{1,4})";
    private static final Pattern TEXT = Pattern.compile(CLAUSE + "(?:;" + CLAUSE + ")*", Pattern.DOTALL);

    final boolean[] clocks = new boolean[24];
    String days = "0123456";
    String kinds = "0123";
    int n = 168;
    int f = 100;
    int c = 50;

    NaiveRights() {
        java.util.Arrays.fill(clocks, true);
    }

    /** The rights of a text that has no fault. */
    static NaiveRights of(String text) {
        NaiveRights rights = new NaiveRights();
        boolean windows = false;
        for (String clause : text.split(";")) {
            String told = clause.substring(1);
            switch (clause.charAt(0)) {
                case 'd' -> rights.days = told;
                case 'k' -> rights.kinds = told;
                case 'n' -> rights.n = Integer.parseInt(told);
                case 'f' -> rights.f = Integer.parseInt(told);
                case 'c' -> rights.c = Integer.parseInt(told);
                default -> {
                    if (!windows) {
                        java.util.Arrays.fill(rights.clocks, false);
                    }
                    windows = true;
                    String[] two = told.split("-");
                    for (int k = Integer.parseInt(two[0]); k < Integer.parseInt(two[1]); k++) {
                        rights.clocks[k] = true;
                    }
                }
            }
        }
        return rights;
    }

    static int fault(String text) {
        int form = faultOfForm(text);
        int number = faultOfNumbers(text, form == -1 ? text.length() : form);
        return number != -1 ? 200 + number : form != -1 ? 100 + form : 0;
    }

    /** The first place that no text of the right form could have there; -1: the form is right. */
    private static int faultOfForm(String text) {
        for (int end = 1; end <= text.length(); end++) {
            Matcher m = TEXT.matcher(text.substring(0, end));
            if (!m.matches() && !m.hitEnd()) {
                return end - 1;
            }
        }
        return TEXT.matcher(text).matches() ? -1 : text.length();
    }

    /** The first number or digit that can't be, of those that have ended where the form is at fault. */
    private static int faultOfNumbers(String text, int stop) {
        char letter = ' ';
        int first = -1;
        for (int i = 0; i < stop; i++) {
            char ch = text.charAt(i);
            boolean digit = ch >= '0' && ch <= '9';
            if (!digit) {
                letter = ch == '-' ? letter : ch;
                first = ch == '-' ? first : -1;
            } else if (letter == 'd' || letter == 'k') {
                if (ch > (letter == 'd' ? '6' : '3')) {
                    return i;
                }
            } else {
                int end = i;
                while (end < stop && text.charAt(end) >= '0' && text.charAt(end) <= '9') {
                    end++;
                }
                boolean goesOn = end < text.length() && text.charAt(end) >= '0' && text.charAt(end) <= '9';
                if (goesOn) {
                    return -1;
                }
                int value = Integer.parseInt(text.substring(i, end));
                int least = letter == 'w' && first != -1 ? first + 1 : 0;
                int greatest = letter == 'n' ? 999 : letter == 'f' ? 9999 : letter == 'c' ? 100 : first != -1 ? 24 : 23;
                if (value < least || value > greatest) {
                    return i;
                }
                first = value;
                i = end - 1;
            }
        }
        return -1;
    }
}
