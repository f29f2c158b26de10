/** Promises 24 to 37, one after the other: texts, pay and days. */
public final class DaysPromisesTest {
    private static final int BAD = PrisonShops.BAD, NO = PrisonShops.NO, FULL = PrisonShops.FULL, NONE = PrisonShops.NONE;
    private static final int KIND = PrisonShops.KIND;

    public static void main(String[] args) {
        promise24Feed();
        promise25Trim();
        promise26Text();
        promise26Faults();
        promise26Nesting();
        promise26Anew();
        promise27Of();
        promise28Why();
        promise29Rules();
        promise29Signs();
        promise30Pay();
        promise30Most();
        promise31Takes();
        promise32Earn();
        promise32Full();
        promise33Lose();
        promise34Appeal();
        promise35Event();
        promise36End();
        promise37Run();
        promise37Work();
        promise37Orders();
        promise37Gate();
        Due.end();
    }

    /** Shop 0 with hand 0 in it. */
    private static PrisonShops begun(int skill, int term) {
        PrisonShops x = new PrisonShops();
        x.shop(3, 3, 0);
        x.hand(1, skill, term);
        x.put(0, 0);
        return x;
    }

    private static void promise24Feed() {
        PrisonShops x = new PrisonShops();
        for (int i = 1; i <= 8; i++) {
            Due.is("24: feed " + i, x.feed(0x70617920, 0x6e2a3220, 0x20202020), 12 * i);
        }
        Due.is("24: one more", x.feed(0, 0, 0), FULL);
        Due.is("24: as many", x.count(9), 96);
        x.trim(85);
        Due.is("24: 97 would be too many", x.feed(0, 0, 0), FULL);
        x.trim(84);
        Due.is("24: 96 are not", x.feed(0, 0, 0), 96);
        x.trim(7);
        Due.is("24: the highest byte of each first", x.text(0), 0);
        Due.is("24: pay n*2", x.rules(0, 21, 0, 0), 42);
        x.feed(-1, 0x80000000, 0xff);
        Due.is("24: bytes above 127", x.text(0), -100);
    }

    private static void promise25Trim() {
        PrisonShops x = new PrisonShops();
        Due.is("25: nothing there", x.trim(0), 0);
        Due.is("25: not one", x.trim(1), BAD);
        x.feed(0x70617920, 0x35203600, 0);
        Due.is("25: below", x.trim(-1), BAD);
        Due.is("25: above", x.trim(13), BAD);
        Due.is("25: all", x.trim(12), 12);
        Due.is("25: the first ones", x.trim(5), 5);
        Due.is("25: what is gone is gone", x.trim(6), BAD);
        Due.is("25: pay 5", x.text(0), 0);
        Due.is("25: is 5", x.rules(0, 1, 1, 1), 5);
    }

    private static void promise26Text() {
        PrisonShops x = new PrisonShops();
        Due.is("26: day below", Due.text(x, -1, "pay n"), BAD);
        Due.is("26: uses the tape up", x.count(9), 0);
        Due.is("26: day above, ahead of a fault", Due.text(x, 1000, "pay"), BAD);
        Due.is("26: uses it up, too", x.count(9), 0);
        Due.is("26: a fault", Due.text(x, 0, "pay x"), -104);
        Due.is("26: uses it up, as well", x.count(9), 0);
        for (int i = 0; i < 12; i++) {
            Due.is("26: text " + i, Due.text(x, i == 0 ? 999 : 0, " pay  n "), i);
        }
        Due.is("26: a fault ahead of FULL", Due.text(x, 0, "pay n n"), -106);
        Due.is("26: one more", Due.text(x, 0, "pay n"), FULL);
        Due.is("26: FULL uses it up", x.count(9), 0);
        Due.is("26: twelve", x.count(6), 12);
    }

    /** What was read ahead, with a FAULT or without, is of no matter. */
    private static void promise26Anew() {
        PrisonShops x = new PrisonShops();
        Due.is("26: ends too soon", Due.text(x, 0, "pay 5-"), -106);
        Due.is("26: text 0", Due.text(x, 0, "pay 7"), 0);
        Due.is("26: only that", x.rules(0, 0, 0, 0), 7);
        Due.is("26: open within others", Due.text(x, 0, "pay !(!(!(!(!(!(!(!("), -120);
        Due.is("26: text 1", Due.text(x, 0, "pay !!!!!!!!((((((((8))))))))"), 1);
        Due.is("26: true", x.rules(0, 0, 0, 0), 1);
        StringBuilder many = new StringBuilder("pay 1");
        while (many.length() < 95) {
            many.append("+1");
        }
        Due.is("26: text 2", Due.text(x, 0, many.toString()), 2);
        Due.is("26: 46 of them", x.rules(0, 0, 0, 0), 46);
        Due.is("26: its parts", x.of(2, 2), 46);
        Due.is("26: text 3", Due.text(x, 0, many.toString()), 3);
        Due.is("26: 46 of them again", x.rules(0, 0, 0, 0), 46);
        Due.is("26: its parts again", x.of(3, 2), 46);
        Due.is("26: 96 bytes", Due.text(x, 0, many.toString().replace("pay ", "pay !")), 4);
        Due.is("26: one less true", x.rules(0, 0, 0, 0), 45);
    }

    private static void fault(String text, int place) {
        PrisonShops x = new PrisonShops();
        Due.is("26: \"" + text + "\"", Due.text(x, 0, text), place < 0 ? 0 : -100 - place);
        Due.is("26: texts", x.count(6), place < 0 ? 1 : 0);
    }

    private static void promise26Faults() {
        fault("", 0);
        fault("   ", 3);
        fault("pay", 3);
        fault("pay  ", 5);
        fault("pays n", 0);
        fault("payz", 0);
        fault("apay", 0);
        fault("paya n", 0);
        fault("  pa n", 2);
        fault("5", 0);
        fault("pay n +", 7);
        fault("pay n + ", 8);
        fault("pay (n", 6);
        fault("pay (n ", 7);
        fault("pay n)", 5);
        fault("pay ()", 5);
        fault("pay n 5", 6);
        fault("pay 5n", 5);
        fault("pay n5", 5);
        fault("pay5", 3);
        fault("pay(5)", -1);
        fault("pay!5", -1);
        fault("pay 5 n", 6);
        fault("pay nn", 4);
        fault("pay 9999", -1);
        fault("pay 10000", 4);
        fault("pay 00001", 4);
        fault("pay 0001", -1);
        fault("pay n ! k", 6);
        fault("pay n < k < r", 10);
        fault("pay n < k = r", 10);
        fault("pay (n < k) > r", -1);
        fault("pay n<k&k<r|r=1&n>k", -1);
        fault("pay n<k+1<r", 9);
        fault("pay n & | k", 8);
        fault("pay -n", 4);
        fault("pay n--k", 6);
        fault("pay N", 4);
        fault("Pay n", 0);
        fault("pay\tn", 3);
        fault("pay n\0", 5);
        fault("pay n\u00e9", 5);
        fault("pay {", 4);
        fault("pay `", 4);
        fault("pay /", 4);
        fault("pay :", 4);
        fault("pay pay", 4);
        String[] keys = {"pay", "lost", "victim", "save", "least", "days"};
        String[] names = {"nkr", "k", "go", "gt", "g", "wk"};
        for (int key = 0; key < keys.length; key++) {
            for (char name = 'a'; name <= 'z'; name++) {
                fault(keys[key] + " " + name, names[key].indexOf(name) >= 0 ? -1 : keys[key].length() + 1);
            }
        }
    }

    private static void promise26Nesting() {
        fault("pay ((((((((n))))))))", -1);
        fault("pay (((((((((n)))))))))", 12);
        fault("pay (n)+((((((((k))))))))+(r)", -1);
        fault("pay !!!!!!!!n", -1);
        fault("pay !!!!!!!!!n", 12);
        fault("pay !!!!!!!!n + !!!!!!!!k", -1);
        fault("pay !(!(!(!(!(!(!(!(n))))))))", -1);
        fault("pay !(!(!(!(!(!(!(!(!n))))))))", 20);
        fault("pay !(!(!(!(!(!(!(!(n + (k)))))))))", 24);
        fault("pay (!n + !n + !n + !n + !n) + !(!n + !n + !n + !n + !n + !n)", -1);
        fault("pay ((((((((!!!!!!!!n))))))))", -1);
    }

    private static void promise27Of() {
        PrisonShops x = new PrisonShops();
        Due.text(x, 7, "pay n + n*(k - 10)");
        Due.text(x, 999, "days !w");
        Due.is("27: key", x.of(0, 0), 0);
        Due.is("27: day", x.of(0, 1), 7);
        Due.is("27: numbers and names", x.of(0, 2), 4);
        Due.is("27: key of days", x.of(1, 0), 5);
        Due.is("27: last day", x.of(1, 1), 999);
        Due.is("27: one name", x.of(1, 2), 1);
        Due.is("27: below", x.of(0, -1), BAD);
        Due.is("27: above", x.of(0, 3), BAD);
        Due.is("27: no text", x.of(2, 0), BAD);
        Due.is("27: text below", x.of(-1, 0), BAD);
        String[] keys = {"pay", "lost", "victim", "save", "least", "days"};
        for (int key = 0; key < keys.length; key++) {
            int text = Due.text(x, 0, keys[key] + " 1");
            Due.is("27: " + keys[key], x.of(text, 0), key);
        }
    }

    private static void promise28Why() {
        PrisonShops x = new PrisonShops();
        Due.is("28: none", x.why(0), NONE);
        Due.is("28: below", x.why(-1), BAD);
        Due.is("28: above", x.why(6), BAD);
        Due.text(x, 3, "pay 1");
        Due.is("28: not yet", x.why(0), NONE);
        Due.text(x, 0, "pay 2");
        Due.is("28: in force", x.why(0), 1);
        Due.is("28: of another key", x.why(5), NONE);
        Due.text(x, 0, "pay 3");
        Due.is("28: the greatest number", x.why(0), 2);
        x.run(2);
        Due.is("28: still", x.why(0), 2);
        x.run(1);
        Due.is("28: the latest day", x.why(0), 0);
        Due.text(x, 1, "pay 4");
        Due.is("28: an earlier day does not count", x.why(0), 0);
    }

    private static void promise29Rules() {
        PrisonShops x = new PrisonShops();
        Due.is("29: pay without a text", x.rules(0, 7, 8, 9), 7);
        for (int key = 1; key < 6; key++) {
            Due.is("29: key " + key + " without a text", x.rules(key, 7, 8, 9), 0);
        }
        Due.is("29: below", x.rules(-1, 1, 1, 1), BAD);
        Due.is("29: above", x.rules(6, 1, 1, 1), BAD);
        Due.text(x, 0, "pay n*100+k*10+r");
        Due.text(x, 0, "lost k");
        Due.text(x, 0, "victim g*10+o");
        Due.text(x, 0, "save g*10+t");
        Due.text(x, 0, "least g");
        Due.text(x, 0, "days w*10+k");
        Due.is("29: n, k, r", x.rules(0, 1, 2, 3), 123);
        Due.is("29: k", x.rules(1, 1, 2, 3), 1);
        Due.is("29: g, o", x.rules(2, 1, 2, 3), 12);
        Due.is("29: g, t", x.rules(3, 1, 2, 3), 12);
        Due.is("29: g", x.rules(4, 1, 2, 3), 1);
        Due.is("29: w, k", x.rules(5, 1, 2, 3), 12);
        Due.is("29: at least 0", x.rules(1, -1, 0, 0), 0);
        Due.is("29: at most 9999", x.rules(1, 10000, 0, 0), 9999);
        Due.is("29: not more", x.rules(1, 9999, 0, 0), 9999);
    }

    /** What an E of pay is worth, moved by 5000 so that it may be below 0. */
    private static void worth(String e, int n, int k, int r, int due) {
        PrisonShops x = new PrisonShops();
        Due.text(x, 0, "pay 5000+(" + e + ")");
        Due.is("29: " + e, x.rules(0, n, k, r), 5000 + due);
    }

    private static void promise29Signs() {
        worth("n-k-r", 10, 3, 2, 5);
        worth("n-(k-r)", 10, 3, 2, 9);
        worth("n/k/r", 100, 5, 2, 10);
        worth("n+k*r", 1, 2, 3, 7);
        worth("(n+k)*r", 1, 2, 3, 9);
        worth("n/k*k", 7, 2, 0, 6);
        worth("n/k", -7, 2, 0, -3);
        worth("n/k", 7, 0, 0, 0);
        worth("n/k+n", Integer.MIN_VALUE, -1, 0, 0);
        worth("n*n/k", 65536, 1, 0, 0);
        worth("n+k-n", Integer.MAX_VALUE, 9, 0, 9);
        worth("n<k", 1, 2, 0, 1);
        worth("n<k", 2, 2, 0, 0);
        worth("n=k", 2, 2, 0, 1);
        worth("n=k", 2, 3, 0, 0);
        worth("n>k", 3, 2, 0, 1);
        worth("n>k", 2, 2, 0, 0);
        worth("n+1<k*2", 4, 3, 0, 1);
        worth("n&k", 7, -1, 0, 1);
        worth("n&k", 7, 0, 0, 0);
        worth("n|k", 0, 7, 0, 1);
        worth("n|k", 0, 0, 0, 0);
        worth("n|k&r", 5, 0, 0, 1);
        worth("(n|k)&r", 5, 0, 0, 0);
        worth("n=1&k=2", 1, 2, 0, 1);
        worth("!n", 5, 0, 0, 0);
        worth("!n", 0, 0, 0, 1);
        worth("!!n", 5, 0, 0, 1);
        worth("!n+k", 0, 5, 0, 6);
        worth("!n*k", 0, 5, 0, 5);
        worth("!(n+k)", 1, -1, 0, 1);
        worth("!(n)+k", 0, 9, 0, 10);
        worth("n", 77, 0, 0, 77);
        worth("0012", 0, 0, 0, 12);
    }

    private static void promise30Pay() {
        PrisonShops x = begun(0, 60);
        x.be(0, 3, 100);
        Due.text(x, 0, "pay 40");
        Due.text(x, 0, "least 30");
        Due.text(x, 0, "victim g/2");
        Due.text(x, 0, "save t");
        Due.is("30: no hand", x.pay(1), BAD);
        Due.is("30: hand below", x.pay(-1), BAD);
        Due.is("30: nothing earned", x.pay(0), 0);
        x.run(5);
        // 200: 30 the least, 100 of 170 to victims, 55 days to the term
        Due.is("30: what comes to coin", x.pay(0), 45);
        Due.is("30: owes", x.is(0, 3), 0);
        Due.is("30: saved", x.is(0, 5), 55);
        Due.is("30: coin", x.is(0, 4), 45);
        Due.is("30: earned", x.is(0, 10), 0);
        x.be(0, 3, 9);
        x.run(1);
        // 40: of 10 above the least 9 that it owes, and 1 of 54
        Due.is("30: the least stays", x.pay(0), 30);
        Due.is("30: owes no more", x.is(0, 3), 0);
        Due.is("30: as far as there is", x.is(0, 5), 56);
        Due.text(x, 6, "pay 20");
        x.be(0, 3, 9);
        x.run(1);
        Due.is("30: below the least all is left", x.pay(0), 20);
        Due.is("30: owes still", x.is(0, 3), 9);
        x.run(54);
        Due.is("30: free", x.pay(0), NO);
    }

    private static void promise30Most() {
        PrisonShops x = begun(0, 999);
        Due.text(x, 0, "pay 9999");
        x.run(12);
        Due.is("30: EARNED is 99999 at most", x.is(0, 10), 99999);
        Due.is("30: all to coin", x.pay(0), 99999);
        x.run(1);
        Due.is("30: more comes", x.pay(0), 9999);
        Due.is("30: COIN is 99999 at most", x.is(0, 4), 99999);
        Due.text(x, 0, "save 9999");
        for (int i = 0; i < 11; i++) {
            x.run(1);
            x.pay(0);
        }
        Due.is("30: SAVED is 99999 at most", x.is(0, 5), 99999);
    }

    private static void promise31Takes() {
        PrisonShops x = begun(0, 20);
        x.be(0, 3, 9999);
        Due.text(x, 0, "pay 50");
        Due.text(x, 0, "least 10");
        Due.text(x, 0, "victim o/1000");
        Due.text(x, 0, "save g/5+t");
        x.run(2);
        Due.is("31: to victims", x.takes(0, 0), 9);
        Due.is("31: saved", x.takes(0, 1), 38);
        Due.is("31: coin", x.takes(0, 2), 53);
        Due.is("31: nothing is taken", x.is(0, 10), 100);
        Due.is("31: below", x.takes(0, -1), BAD);
        Due.is("31: above", x.takes(0, 3), BAD);
        Due.is("31: no hand", x.takes(1, 0), BAD);
        Due.is("31: hand below", x.takes(-1, 0), BAD);
        Due.is("31: as told", x.pay(0), 53);
        x.lose(0, 50);
        x.run(23);
        // behind its term the days to it are below 0: 1150 / 5 - 5
        Due.is("31: behind the term", x.takes(0, 1), 225);
        x.appeal(0);
        x.run(1);
        Due.is("31: BAD ahead of free", x.takes(0, 3), BAD);
        Due.is("31: free", x.takes(0, 0), NO);
    }

    private static void promise32Earn() {
        PrisonShops x = begun(2, 500);
        x.run(4);
        Due.is("32: no text", x.earn(0), 0);
        Due.is("32: no event", x.count(7), 0);
        Due.text(x, 0, "days w+k*10");
        x.run(3);
        Due.is("32: the turns since, and the skill", x.earn(0), 23);
        Due.is("32: an event", x.count(7), 1);
        Due.is("32: its days", x.event(0, 1), 23);
        Due.text(x, 0, "days w/2");
        x.run(1);
        Due.is("32: nothing", x.earn(0), 0);
        x.run(1);
        Due.is("32: what was counted is gone", x.earn(0), 0);
        x.run(2);
        Due.is("32: two", x.earn(0), 1);
        Due.is("32: of one day, too, an event", x.count(7), 2);
        Due.text(x, 0, "days 100");
        Due.is("32: 99 at most", x.earn(0), 99);
        Due.is("32: no hand", x.earn(1), BAD);
        Due.is("32: hand below", x.earn(-1), BAD);
        x.hand(0, 0, 1);
        x.run(1);
        Due.is("32: free", x.earn(1), NO);
    }

    private static void promise32Full() {
        PrisonShops x = begun(0, 999);
        Due.text(x, 2, "days w");
        x.hand(0, 0, 2);
        for (int i = 0; i < 40; i++) {
            x.lose(0, 1);
        }
        x.run(3);
        Due.is("32: FULL", x.earn(0), FULL);
        Due.text(x, 0, "days 0");
        Due.is("32: FULL even where none would come", x.earn(0), FULL);
        Due.is("32: free ahead of FULL", x.earn(1), NO);
        Due.is("32: BAD ahead of FULL", x.earn(2), BAD);
        Due.is("32: forty", x.count(7), 40);
    }

    private static void promise33Lose() {
        PrisonShops x = begun(0, 30);
        x.hand(0, 0, 1);
        x.run(2);
        Due.is("33: no hand", x.lose(2, 1), BAD);
        Due.is("33: hand below", x.lose(-1, 1), BAD);
        Due.is("33: nothing", x.lose(0, 0), BAD);
        Due.is("33: too much", x.lose(0, 100), BAD);
        Due.is("33: BAD ahead of free", x.lose(1, 0), BAD);
        Due.is("33: free", x.lose(1, 1), NO);
        for (int i = 0; i < 40; i++) {
            Due.is("33: event " + i, x.lose(0, i == 0 ? 99 : 1), i);
        }
        Due.is("33: full", x.lose(0, 1), FULL);
        Due.is("33: BAD ahead of full", x.lose(0, 100), BAD);
        Due.is("33: free ahead of full", x.lose(1, 1), NO);
        Due.is("33: below 0", x.event(0, 1), -99);
        Due.is("33: the end", x.end(0, 2), 30 + 99 + 39);
    }

    private static void promise34Appeal() {
        PrisonShops x = begun(0, 4);
        Due.text(x, 0, "days w");
        x.run(2);
        x.lose(0, 5);
        x.earn(0);
        x.lose(0, 1);
        Due.is("34: no event", x.appeal(3), BAD);
        Due.is("34: event below", x.appeal(-1), BAD);
        Due.is("34: no lose", x.appeal(1), KIND);
        Due.is("34: back", x.appeal(0), 1);
        Due.is("34: back already", x.appeal(0), NO);
        Due.is("34: no lose, still", x.appeal(1), KIND);
        Due.is("34: the end", x.end(0, 2), 3);
        x.run(2);
        Due.is("34: free", x.is(0, 11), 1);
        Due.is("34: the hand is free", x.appeal(2), NO);
        Due.is("34: it is as it was", x.event(2, 3), NONE);
    }

    private static void promise35Event() {
        PrisonShops x = begun(0, 400);
        x.hand(0, 0, 400);
        Due.text(x, 0, "days w");
        x.run(3);
        x.earn(0);
        x.run(1);
        x.lose(1, 7);
        x.run(1);
        x.appeal(1);
        int[] earned = {0, 3, 3, NONE};
        int[] lost = {1, -7, 4, 5};
        for (int what = 0; what < 4; what++) {
            Due.is("35: event(0, " + what + ")", x.event(0, what), earned[what]);
            Due.is("35: event(1, " + what + ")", x.event(1, what), lost[what]);
        }
        Due.is("35: below", x.event(0, -1), BAD);
        Due.is("35: above", x.event(0, 4), BAD);
        Due.is("35: no event", x.event(2, 0), BAD);
        Due.is("35: event below", x.event(-1, 0), BAD);
    }

    private static void promise36End() {
        PrisonShops x = begun(0, 400);
        x.hand(0, 0, 300);
        x.run(5);
        x.lose(0, 10);
        x.run(5);
        x.appeal(0);
        Due.text(x, 0, "days w");
        x.earn(0);
        Due.is("36: ahead of all", x.end(0, 4), 400);
        Due.is("36: as told", x.end(0, 5), 410);
        Due.is("36: ahead of the appeal", x.end(0, 9), 410);
        Due.is("36: from the appeal on", x.end(0, 10), 390);
        Due.is("36: later", x.end(0, 999), 390);
        Due.is("36: of another", x.end(1, 999), 300);
        Due.is("36: on day 0", x.end(0, 0), 400);
        Due.is("36: no day below", x.end(0, -1), BAD);
        Due.is("36: no day 1000", x.end(0, 1000), BAD);
        Due.is("36: no hand", x.end(2, 0), BAD);
        Due.is("36: hand below", x.end(-1, 0), BAD);
        x.run(60);
        x.lose(1, 99);
        Due.is("36: it was not known", x.end(1, 69), 300);
        Due.is("36: now it is", x.end(1, 70), 399);
    }

    private static void promise37Run() {
        PrisonShops x = new PrisonShops();
        Due.is("37: no day", x.run(0), BAD);
        Due.is("37: below", x.run(-1), BAD);
        Due.is("37: above", x.run(61), BAD);
        Due.is("37: sixty", x.run(60), 60);
        for (int i = 2; i <= 16; i++) {
            x.run(60);
        }
        Due.is("37: day 960", x.count(10), 960);
        Due.is("37: too many", x.run(40), FULL);
        Due.is("37: BAD ahead of FULL", x.run(61), BAD);
        Due.is("37: to the last", x.run(39), 999);
        Due.is("37: no more", x.run(1), FULL);
        Due.is("37: it stays", x.count(10), 999);
    }

    private static void promise37Work() {
        PrisonShops x = begun(2, 900);
        x.hand(3, 0, 900);
        x.hand(0, 0, 900);
        x.put(1, 0);
        Due.text(x, 0, "pay n*100+k*10+r");
        Due.text(x, 3, "lost k+1");
        x.be(1, 9, 1);
        x.run(1);
        Due.is("37: pieces, skill, risk", x.is(0, 10), 721);
        Due.is("37: of the other", x.is(1, 10), 503);
        x.run(1);
        Due.is("37: nothing on a court day", x.is(1, 10), 503);
        Due.is("37: no turn on a court day", x.is(1, 6), 1);
        Due.is("37: made by the others", x.has(0, 6), 19);
        x.lock(0, 2);
        x.be(1, 9, 2);
        x.run(1);
        Due.is("37: lost without a text", x.is(0, 10), 1442);
        x.run(1);
        Due.is("37: lost by a text in force", x.is(0, 10), 1445);
        Due.is("37: of the other, too", x.is(1, 10), 504);
        Due.is("37: no turn while locked", x.is(0, 6), 2);
        Due.is("37: nothing made", x.has(0, 6), 19);
        x.run(8);
        Due.is("37: the tenth turn", x.is(0, 6), 10);
        Due.is("37: skill", x.is(0, 1), 3);
        Due.is("37: learnt", x.is(0, 7), 0);
        Due.is("37: the new skill is of the next day", x.is(0, 10), 1445 + 8 * 721);
        x.run(10);
        Due.is("37: skill is 3 at most", x.is(0, 1), 3);
        Due.is("37: learnt from 0 again", x.is(0, 7), 0);
        Due.is("37: who is in no shop earns nothing", x.is(2, 10), 0);
    }

    private static void promise37Orders() {
        PrisonShops x = begun(0, 900);
        x.shop(1, 0, 0);
        x.thing(5, 0, 9, 8);
        x.thing(5, 0, 12, 3);
        x.thing(5, 0, 3, 3);
        x.thing(5, 1, 1, 0);
        x.run(2);
        Due.is("37: the first is not done, so none is", x.count(5), 4);
        x.run(1);
        Due.is("37: the first by date", x.told(1, 6), 2);
        Due.is("37: and at once the next, as made is as much", x.told(2, 6), 2);
        Due.is("37: made is less by both", x.has(0, 6), 0);
        x.run(1);
        Due.is("37: not yet", x.told(0, 6), NONE);
        x.run(1);
        Due.is("37: the last", x.told(0, 6), 4);
        Due.is("37: what is left", x.has(0, 6), 1);
        Due.is("37: of the other shop", x.told(3, 6), NONE);
        x.thing(5, 0, 1, 9);
        Due.is("37: nothing is done ahead of a day's end", x.told(4, 6), NONE);
    }

    private static void promise37Gate() {
        PrisonShops x = begun(0, 3);
        x.hand(0, 0, 9);
        x.put(1, 0);
        x.thing(1, 0, 0, 0);
        x.thing(1, 0, 0, 0);
        x.out(0, 0);
        x.out(1, 1);
        Due.text(x, 0, "save 3");
        x.run(2);
        x.pay(0);
        x.be(0, 3, 40);
        x.run(1);
        Due.is("37: its last day is to come", x.is(0, 11), 0);
        x.run(1);
        int[] due = {1, 0, 3, 40, 20, 0, 4, 4, NONE, NONE, 0, 1};
        for (int what = 0; what < due.length; what++) {
            Due.is("37: free: is(0, " + what + ")", x.is(0, what), due[what]);
        }
        Due.is("37: its tool is lost", x.told(0, 4), 2);
        Due.is("37: and out to nobody", x.told(0, 5), NONE);
        Due.is("37: the other's is not", x.told(1, 4), 1);
        Due.text(x, 0, "days w");
        x.earn(1);
        Due.is("37: four days earned", x.end(1, 4), 5);
        x.run(1);
        Due.is("37: the end is not yet", x.is(1, 11), 0);
        x.run(1);
        Due.is("37: days earned count", x.is(1, 11), 1);
        x.hand(0, 0, 2);
        Due.is("37: a term that is over", x.is(2, 11), 0);
        x.lose(2, 99);
        x.run(1);
        Due.is("37: but for days lost", x.is(2, 11), 0);
        x.appeal(1);
        x.run(1);
        Due.is("37: given back", x.is(2, 11), 1);
    }
}
