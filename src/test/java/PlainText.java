import java.util.ArrayList;
import java.util.List;

/** A TEXT read from its bytes as the document's grammar stands, one method a line of it. */
final class PlainText {
    private static final String[] KEYS = {"pay", "lost", "victim", "save", "least", "days"};
    private static final String[] NAMES = {"nkr", "k", "go", "gt", "g", "wk"};

    /** What a part of the TEXT is worth for told numbers. */
    private interface Worth {
        int of(int[] told);
    }

    private static final class Fault extends RuntimeException {
        private static final long serialVersionUID = 1;
        final int place;

        Fault(int place) {
            super(null, null, false, false);
            this.place = place;
        }
    }

    private final List<String> tokens = new ArrayList<>();
    private final List<Integer> places = new ArrayList<>();
    private int at = 0;
    private int brackets = 0;
    private int nots = 0;
    private Worth worth;

    /** -1: there is none. */
    int fault = -1;
    int key = -1;
    int parts = 0;

    PlainText(String bytes) {
        split(bytes);
        try {
            key = List.of(KEYS).indexOf(token());
            if (key < 0) {
                throw new Fault(place());
            }
            at++;
            worth = or();
            if (!token().isEmpty()) {
                throw new Fault(place());
            }
        } catch (Fault e) {
            fault = e.place;
        }
    }

    int value(int a, int b, int c) {
        return worth.of(new int[] {a, b, c});
    }

    private static int sortOf(char c) {
        return c >= 'a' && c <= 'z' ? 1 : c >= '0' && c <= '9' ? 2 : c == ' ' ? 3 : 0;
    }

    /** Words and signs with their places; one that lacks the blank ahead of it is "?", which fits nowhere; the end is "". */
    private void split(String bytes) {
        int i = 0;
        while (i < bytes.length()) {
            int sort = sortOf(bytes.charAt(i));
            int j = i + 1;
            while (sort != 0 && j < bytes.length() && sortOf(bytes.charAt(j)) == sort) {
                j++;
            }
            if (sort != 3) {
                boolean isWord = sort == 1 || sort == 2;
                boolean behindWord = i > 0 && (sortOf(bytes.charAt(i - 1)) == 1 || sortOf(bytes.charAt(i - 1)) == 2);
                tokens.add(isWord && behindWord ? "?" : bytes.substring(i, j));
                places.add(i);
            }
            i = j;
        }
        tokens.add("");
        places.add(bytes.length());
    }

    private String token() {
        return tokens.get(at);
    }

    private int place() {
        return places.get(at);
    }

    private boolean takes(String sign) {
        if (!token().equals(sign)) {
            return false;
        }
        at++;
        return true;
    }

    private static int bit(boolean it) {
        return it ? 1 : 0;
    }

    private Worth or() {
        Worth left = and();
        while (takes("|")) {
            Worth one = left;
            Worth other = and();
            left = told -> bit(one.of(told) != 0 | other.of(told) != 0);
        }
        return left;
    }

    private Worth and() {
        Worth left = test();
        while (takes("&")) {
            Worth one = left;
            Worth other = test();
            left = told -> bit(one.of(told) != 0 & other.of(told) != 0);
        }
        return left;
    }

    private Worth test() {
        Worth one = sum();
        if (takes("<")) {
            Worth other = sum();
            return told -> bit(one.of(told) < other.of(told));
        }
        if (takes("=")) {
            Worth other = sum();
            return told -> bit(one.of(told) == other.of(told));
        }
        if (takes(">")) {
            Worth other = sum();
            return told -> bit(one.of(told) > other.of(told));
        }
        return one;
    }

    private Worth sum() {
        Worth left = term();
        while (true) {
            Worth one = left;
            if (takes("+")) {
                Worth other = term();
                left = told -> one.of(told) + other.of(told);
            } else if (takes("-")) {
                Worth other = term();
                left = told -> one.of(told) - other.of(told);
            } else {
                return left;
            }
        }
    }

    private Worth term() {
        Worth left = part();
        while (true) {
            Worth one = left;
            if (takes("*")) {
                Worth other = part();
                left = told -> one.of(told) * other.of(told);
            } else if (takes("/")) {
                Worth other = part();
                left = told -> other.of(told) == 0 ? 0 : one.of(told) / other.of(told);
            } else {
                return left;
            }
        }
    }

    private Worth part() {
        String token = token();
        if (token.equals("!") && nots < 8) {
            at++;
            nots++;
            Worth it = part();
            nots--;
            return told -> bit(it.of(told) == 0);
        }
        if (token.equals("(") && brackets < 8) {
            at++;
            brackets++;
            Worth it = or();
            if (!takes(")")) {
                throw new Fault(place());
            }
            brackets--;
            return it;
        }
        if (token.length() == 1 && NAMES[key].contains(token) && sortOf(token.charAt(0)) == 1) {
            int name = NAMES[key].indexOf(token);
            at++;
            parts++;
            return told -> told[name];
        }
        if (!token.isEmpty() && token.length() <= 4 && sortOf(token.charAt(0)) == 2) {
            int number = Integer.parseInt(token);
            at++;
            parts++;
            return told -> number;
        }
        throw new Fault(place());
    }
}
