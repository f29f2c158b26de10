import java.util.Random;

/** Promises 26, 27 and 29: drawn bytes as TEXTS, against PlainText. */
public final class TextsTest {
    private static final String[] KEYS = {"pay", "lost", "victim", "save", "least", "days"};
    private static final String[] NAMES = {"nkr", "k", "go", "gt", "g", "wk"};
    private static final int[] EDGES = {0, 1, -1, 2, 3, 9, 10000, -10000, 46341, Integer.MAX_VALUE, Integer.MIN_VALUE};

    public static void main(String[] args) {
        Random random = new Random(26);
        for (int i = 0; i < 60000; i++) {
            String text = drawn(random);
            tryOne(random, text);
            tryOne(random, spoilt(random, text));
        }
        Due.end();
    }

    private static void tryOne(Random random, String text) {
        PlainText plain = new PlainText(text);
        PrisonShops x = new PrisonShops();
        int day = random.nextInt(2);
        Due.is("text \"" + text + "\"", Due.text(x, day, text), plain.fault < 0 ? 0 : -100 - plain.fault);
        Due.is("the TAPE behind it", x.count(9), 0);
        Due.is("TEXTS behind it", x.count(6), plain.fault < 0 ? 1 : 0);
        if (plain.fault >= 0) {
            return;
        }
        Due.is("of(0, 0) of " + text, x.of(0, 0), plain.key);
        Due.is("of(0, 1) of " + text, x.of(0, 1), day);
        Due.is("of(0, 2) of " + text, x.of(0, 2), plain.parts);
        for (int i = 0; i < 4 && day == 0; i++) {
            int a = told(random);
            int b = told(random);
            int c = told(random);
            int due = Math.max(0, Math.min(9999, plain.value(a, b, c)));
            Due.is("rules(" + a + ", " + b + ", " + c + ") of " + text, x.rules(plain.key, a, b, c), due);
        }
    }

    private static int told(Random random) {
        return random.nextInt(4) == 0 ? EDGES[random.nextInt(EDGES.length)] : random.nextInt(60) - 5;
    }

    /** A TEXT without a FAULT, but where it got too long or too deep. */
    private static String drawn(Random random) {
        int key = random.nextInt(KEYS.length);
        StringBuilder text = new StringBuilder(random.nextInt(4) == 0 ? " " : "").append(KEYS[key]);
        e(random, text, NAMES[key], random.nextInt(5));
        blanks(random, text);
        return text.length() > 96 ? text.substring(0, 96) : text.toString();
    }

    private static void blanks(Random random, StringBuilder text) {
        for (int n = random.nextInt(8) - 5; n > 0; n--) {
            text.append(' ');
        }
    }

    private static void sign(Random random, StringBuilder text, String signs) {
        blanks(random, text);
        text.append(signs.charAt(random.nextInt(signs.length())));
        blanks(random, text);
    }

    private static void word(StringBuilder text, String word) {
        if (Character.isLetterOrDigit(text.charAt(text.length() - 1))) {
            text.append(' ');
        }
        text.append(word);
    }

    private static void e(Random random, StringBuilder text, String names, int depth) {
        part(random, text, names, depth);
        for (int n = random.nextInt(4); n > 0 && text.length() < 80; n--) {
            sign(random, text, "+-*/+-*/<=>&|&|");
            part(random, text, names, depth);
        }
    }

    private static void part(Random random, StringBuilder text, String names, int depth) {
        int sort = random.nextInt(10);
        if (sort < 2 && depth > 0) {
            sign(random, text, "(");
            e(random, text, names, depth - 1);
            sign(random, text, ")");
        } else if (sort < 4) {
            for (int n = random.nextInt(40) == 0 ? 8 + random.nextInt(2) : 1; n > 0; n--) {
                sign(random, text, "!");
            }
            part(random, text, names, depth - 1);
        } else if (sort == 4 && random.nextInt(30) == 0) {
            int deep = 7 + random.nextInt(3);
            text.append("((((((((((", 0, deep);
            e(random, text, names, 0);
            text.append("))))))))))", 0, deep);
        } else if (sort < 8) {
            word(text, "" + names.charAt(random.nextInt(names.length())));
        } else {
            word(text, "" + random.nextInt(random.nextInt(9) == 0 ? 20000 : random.nextInt(3) == 0 ? 10000 : 12));
        }
    }

    /** The same with a byte lost, doubled or changed, or cut off. */
    private static String spoilt(Random random, String text) {
        String bytes = " nkrgotw()!&|<=>+-*/059azPAY.\u0000\u00ff\u00e9\t{`:";
        int place = random.nextInt(text.length());
        char other = bytes.charAt(random.nextInt(bytes.length()));
        String spoilt;
        switch (random.nextInt(4)) {
            case 0: spoilt = text.substring(0, place) + text.substring(place + 1); break;
            case 1: spoilt = text.substring(0, place) + other + text.substring(place); break;
            case 2: spoilt = text.substring(0, place) + other + text.substring(place + 1); break;
            default: spoilt = text.substring(0, place);
        }
        return spoilt.length() > 96 ? spoilt.substring(0, 96) : spoilt;
    }
}
