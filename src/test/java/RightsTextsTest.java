import java.util.Random;

/** Promise 3 on random texts: the fault and its place as a second reader has them. */
public final class RightsTextsTest {
    public static void main(String[] args) {
        Random random = new Random(7);
        int right = 0;
        for (int i = 0; i < 300000; i++) {
            String text = i % 3 == 0 ? noise(random) : clauses(random, i % 3 == 1);
            int want = NaiveRights.fault(text);
            right += want == 0 ? 1 : 0;
            Due.is("rights '" + text + "'", Due.tell(new IceHall(), 0, text), want);
        }
        Due.yes("many texts without a fault", right > 20000);
        Due.end();
    }

    static String noise(Random random) {
        String letters = "wdknfc;-0123456789 x\u00ff\u00b2";
        StringBuilder text = new StringBuilder();
        int length = random.nextInt(12);
        for (int i = 0; i < length; i++) {
            text.append(letters.charAt(random.nextInt(letters.length())));
        }
        return text.toString();
    }

    /** Clauses that are mostly right; broken ones have a byte changed, taken out or put in. */
    static String clauses(Random random, boolean broken) {
        StringBuilder text = new StringBuilder();
        int many = 1 + random.nextInt(5);
        for (int i = 0; i < many; i++) {
            text.append(i == 0 ? "" : ";").append(clause(random, broken));
        }
        if (broken && random.nextBoolean()) {
            int place = random.nextInt(text.length());
            String letters = "wdknfc;-0123456789";
            char letter = letters.charAt(random.nextInt(letters.length()));
            switch (random.nextInt(3)) {
                case 0 -> text.setCharAt(place, letter);
                case 1 -> text.deleteCharAt(place);
                default -> text.insert(place, letter);
            }
        }
        return text.toString();
    }

    private static String clause(Random random, boolean wide) {
        switch (random.nextInt(6)) {
            case 0:
                int from = random.nextInt(wide ? 27 : 24);
                int to = wide ? random.nextInt(28) : from + 1 + random.nextInt(24 - from);
                return "w" + number(random, from) + "-" + number(random, to);
            case 1:
                return "d" + digits(random, wide ? 8 : 7, 1 + random.nextInt(wide ? 8 : 7));
            case 2:
                return "k" + digits(random, wide ? 5 : 4, 1 + random.nextInt(wide ? 5 : 4));
            case 3:
                return "n" + number(random, random.nextInt(wide && random.nextBoolean() ? 1100 : 1000));
            case 4:
                return "f" + number(random, random.nextInt(wide ? 10500 : 10000));
            default:
                return "c" + number(random, random.nextInt(wide ? 110 : 101));
        }
    }

    private static String digits(Random random, int bound, int many) {
        StringBuilder text = new StringBuilder();
        for (int i = 0; i < many; i++) {
            text.append(random.nextInt(bound));
        }
        return text.toString();
    }

    private static String number(Random random, int value) {
        StringBuilder text = new StringBuilder().append(value);
        while (text.length() < 4 && random.nextInt(4) == 0) {
            text.insert(0, '0');
        }
        return text.toString();
    }
}
