/** Promises 24 to 29 and section 3 of the Terms: one test for each sentence that names an edge, its words in the test's labels. */
public final class EdgesTextsTest {
    private static final int BAD = PrisonShops.BAD, FULL = PrisonShops.FULL, NONE = PrisonShops.NONE;
    private static final int LEAST = Integer.MIN_VALUE, MOST = Integer.MAX_VALUE;
    private static final String[] KEYS = {"pay", "lost", "victim", "save", "least", "days"};
    private static final String[] NAMES = {"nkr", "k", "go", "gt", "g", "wk"};

    public static void main(String[] args) {
        tapeHas96BytesAtMost();
        tapeTakesTheHighestFirst();
        feedGoesOnBehindWhatIsThere();
        trimKeepsTheFirst();
        trimAsksForN();
        textUsesTheTapeUpWhateverItAnswers();
        textBadIsAskedFirst();
        textDaysAre0To999();
        textFaultAheadOfFull();
        textsAreTwelveAtMost();
        textReadsAllOfTheTape();
        faultOfAKey();
        faultOfTheEnd();
        faultOfABlankThatIsNeeded();
        blanksWhereTheyMayBe();
        faultOfANumberOfMoreThan4Digits();
        faultOfAName();
        faultOfTheNinthBracket();
        faultOfTheNinthNot();
        eachByItself();
        faultOfASecondTest();
        faultOfOtherSigns();
        faultOfWhatGoesOnBehindIt();
        ofAsksForTextAndWhat();
        ofCountsNumbersAndNames();
        whyByDay();
        whyByNumber();
        whyAsksForKey();
        rulesWithoutAText();
        rulesAreHeldWithin0To9999();
        rulesByNamesInTheirOrder();
        rulesAskForKey();
        rulesOnTheirDay();
        intsWrap();
        divisionCutsTowards0();
        divisionBy0Is0();
        testsGive1Or0();
        notGives1Or0();
        whatIsNot0IsTrue();
        theLoosestFirst();
        theLeftmostFirst();
        numbersOf1To4Digits();
        Due.end();
    }

    private static void fault(String text, int place) {
        PrisonShops x = new PrisonShops();
        Due.is("26: \"" + text + "\"", Due.text(x, 0, text), -100 - place);
        Due.is("26: no TEXT", x.count(6), 0);
        Due.is("26: THE TAPE is used up", x.count(9), 0);
    }

    private static void fits(String text) {
        Due.is("26: \"" + text + "\"", Due.text(new PrisonShops(), 0, text), 0);
    }

    /** THE RULE of pay by such an E. */
    private static void gives(String e, int n, int k, int r, int due) {
        PrisonShops x = new PrisonShops();
        Due.text(x, 0, "pay " + e);
        Due.is("29: " + e + " of " + n + ", " + k + ", " + r, x.rules(0, n, k, r), due);
    }

    private static String times(String s, int n) {
        return s.repeat(n);
    }

    private static void tapeHas96BytesAtMost() {
        PrisonShops x = new PrisonShops();
        for (int n = 12; n <= 96; n += 12) {
            Due.is("24: how many it has", x.feed(0, 0, 0), n);
        }
        Due.is("24: it would have more than 96", x.feed(1, 2, 3), FULL);
        Due.is("24: it has 96", x.count(9), 96);
        x.trim(85);
        Due.is("24: 97", x.feed(1, 2, 3), FULL);
        Due.is("24: it has 85", x.count(9), 85);
        x.trim(84);
        Due.is("24: 96", x.feed(1, 2, 3), 96);
        x.trim(0);
        Due.is("24: empty again", x.feed(1, 2, 3), 12);
    }

    private static void tapeTakesTheHighestFirst() {
        PrisonShops x = new PrisonShops();
        x.feed('p' << 24 | 'a' << 16 | 'y' << 8 | ' ', '1' << 24 | '2' << 16 | '3' << 8 | '4', ' ' << 24 | '+' << 16 | 'n' << 8 | ' ');
        Due.is("24: twelve bytes", x.text(0), 0);
        Due.is("24: the highest of each number first", x.rules(0, 5, 0, 0), 1239);
        x.feed(-1, LEAST, MOST);
        Due.is("24: a byte of 255 is a sign", x.text(0), -100);
        x.feed('p' << 24 | 'a' << 16 | 'y' << 8 | ' ', 'n' << 24 | 0xf0 << 16, 0);
        Due.is("24: bytes are not below 0", x.text(0), -105);
    }

    private static void feedGoesOnBehindWhatIsThere() {
        PrisonShops x = new PrisonShops();
        x.feed('p' << 24 | 'a' << 16 | 'y' << 8 | ' ', '7' << 24, 0);
        x.trim(5);
        Due.is("24: behind the fifth", x.feed('7' << 24 | '+' << 16 | 'k' << 8 | ' ', 0x20202020, 0x20202020), 17);
        Due.is("24: one TEXT", x.text(0), 0);
        Due.is("24: pay 77+k", x.rules(0, 0, 1, 0), 78);
    }

    private static void trimKeepsTheFirst() {
        PrisonShops x = new PrisonShops();
        Due.feed(x, "pay n+1000");
        Due.is("25: its first 7", x.trim(7), 7);
        Due.is("25: no more", x.count(9), 7);
        x.text(0);
        Due.is("25: pay n+1", x.rules(0, 4, 0, 0), 5);
    }

    private static void trimAsksForN() {
        PrisonShops x = new PrisonShops();
        Due.is("25: empty, 0", x.trim(0), 0);
        Due.is("25: empty, 1", x.trim(1), BAD);
        Due.is("25: empty, -1", x.trim(-1), BAD);
        x.feed(0, 0, 0);
        Due.is("25: 13 of 12", x.trim(13), BAD);
        Due.is("25: the most", x.trim(MOST), BAD);
        Due.is("25: the least", x.trim(LEAST), BAD);
        Due.is("25: -1", x.trim(-1), BAD);
        Due.is("25: it has 12 still", x.count(9), 12);
        Due.is("25: 12 of 12", x.trim(12), 12);
        Due.is("25: 0 of 12", x.trim(0), 0);
        Due.is("25: none", x.count(9), 0);
    }

    private static void textUsesTheTapeUpWhateverItAnswers() {
        PrisonShops x = new PrisonShops();
        Due.feed(x, "pay n");
        x.text(0);
        Due.is("26: its number: used up", x.count(9), 0);
        Due.feed(x, "pay n");
        Due.is("26: BAD", x.text(-1), BAD);
        Due.is("26: BAD: used up", x.count(9), 0);
        Due.feed(x, "pay q");
        x.text(0);
        Due.is("26: FAULT: used up", x.count(9), 0);
        for (int i = 1; i < 12; i++) {
            Due.text(x, 0, "pay n");
        }
        Due.feed(x, "pay n");
        Due.is("26: FULL", x.text(0), FULL);
        Due.is("26: FULL: used up", x.count(9), 0);
        Due.is("26: empty", x.text(0), -100);
    }

    private static void textBadIsAskedFirst() {
        PrisonShops x = new PrisonShops();
        Due.is("26: BAD ahead of a FAULT", Due.text(x, 1000, "pay"), BAD);
        Due.is("26: BAD ahead of the end", x.text(-1), BAD);
        for (int i = 0; i < 12; i++) {
            Due.text(x, 0, "pay n");
        }
        Due.is("26: BAD ahead of FULL", Due.text(x, 1000, "pay n"), BAD);
    }

    private static void textDaysAre0To999() {
        PrisonShops x = new PrisonShops();
        for (int day : new int[] {LEAST, -1, 1000, MOST}) {
            Due.is("26: no DAY " + day, Due.text(x, day, "pay n"), BAD);
        }
        Due.is("26: none came", x.count(6), 0);
        Due.is("26: DAY 0", Due.text(x, 0, "pay n"), 0);
        Due.is("26: DAY 999", Due.text(x, 999, "pay n"), 1);
        x.run(9);
        Due.is("26: a DAY that is over", Due.text(x, 3, "pay n"), 2);
        Due.is("26: it is told", x.of(2, 1), 3);
    }

    private static void textFaultAheadOfFull() {
        PrisonShops x = new PrisonShops();
        for (int i = 0; i < 12; i++) {
            Due.text(x, 0, "pay n");
        }
        Due.is("26: a FAULT ahead of FULL", Due.text(x, 0, "pay n n"), -106);
        Due.is("26: the end ahead of FULL", Due.text(x, 0, "pay n+"), -106);
        Due.is("26: FULL", Due.text(x, 0, "pay n"), FULL);
    }

    private static void textsAreTwelveAtMost() {
        PrisonShops x = new PrisonShops();
        for (int i = 0; i < 12; i++) {
            Due.is("26: TEXTS are numbered from 0", Due.text(x, 999 - i, KEYS[i % 6] + " " + i), i);
        }
        Due.is("26: FULL with 12 of them", Due.text(x, 0, "pay 5"), FULL);
        Due.is("26: 12 of them", x.count(6), 12);
        Due.is("26: no TEXT 12", x.of(12, 0), BAD);
        Due.is("26: none of it counts", x.why(0), NONE);
        Due.row("26: TEXT 11", what -> x.of(11, what), 5, 988, 1);
    }

    private static void textReadsAllOfTheTape() {
        String many = "pay n" + times("+n", 45);
        gives(many.substring(4), 3, 0, 0, 138);
        fits(many + " ");
        fault(many + ")", 95);
        fault(many + "+", 96);
        fault(times(" ", 96), 96);
        PrisonShops x = new PrisonShops();
        Due.is("26: 96 bytes", Due.text(x, 0, "lost k" + times("-1", 45)), 0);
        Due.is("26: 46 of them", x.of(0, 2), 46);
    }

    private static void faultOfAKey() {
        for (String key : KEYS) {
            fits(key + " 1");
            fault(key.substring(1) + " 1", 0);
            fault(key.substring(0, key.length() - 1) + " 1", 0);
            fault("  " + key + "s 1", 2);
            fault(key.toUpperCase() + " 1", 0);
            fault("(" + key + ") 1", 0);
            fault(key + " " + key, key.length() + 1);
        }
        fault("rate 1", 0);
        fault("1", 0);
        fault("n", 0);
        fault(" =", 1);
    }

    private static void faultOfTheEnd() {
        fault("", 0);
        fault(" ", 1);
        fault("pay", 3);
        fault("pay ", 4);
        fault("pay !", 5);
        fault("pay (", 5);
        fault("pay (n", 6);
        fault("pay ((n)", 8);
        fault("pay (n   ", 9);
        for (String sign : new String[] {"+", "-", "*", "/", "<", "=", ">", "&", "|"}) {
            fault("pay n" + sign, 6);
            fault("pay n " + sign + "  ", 9);
        }
    }

    private static void faultOfABlankThatIsNeeded() {
        fault("pay5", 3);
        fault("pay5 5", 3);
        fault("pay n5", 5);
        fault("pay 5n", 5);
        fault("pay 5k+1", 5);
        fault("payn", 0);
        fault("5pay", 0);
        fits("pay(n)");
        fits("pay!n");
        fits("pay n+5");
    }

    private static void blanksWhereTheyMayBe() {
        fits("  pay   n  +  5  ");
        fits("pay ! n");
        fits("pay ! ( n ) ");
        fits("pay(n+5)*(k)");
        fault("pay n n", 6);
        fault("pay 5 5", 6);
        fault("pay 1 000", 6);
        fault("p ay n", 0);
        fault("pay\tn", 3);
        fault("pay\nn", 3);
        fault("pay\0n", 3);
        fault("pay n\u00a0", 5);
    }

    private static void faultOfANumberOfMoreThan4Digits() {
        fits("pay 9999");
        fits("pay 0000");
        fault("pay 10000", 4);
        fault("pay 00000", 4);
        fault("pay n+ 12345678901234567890", 7);
        fault("pay (12345)", 5);
        fault("pay 1234 5", 9);
    }

    private static void faultOfAName() {
        for (int key = 0; key < KEYS.length; key++) {
            for (char name = 'a'; name <= 'z'; name++) {
                if (NAMES[key].indexOf(name) >= 0) {
                    fits(KEYS[key] + " " + name);
                    fault(KEYS[key] + " " + name + name, KEYS[key].length() + 1);
                } else {
                    fault(KEYS[key] + " 1+" + name, KEYS[key].length() + 3);
                }
            }
            fault(KEYS[key] + " " + Character.toUpperCase(NAMES[key].charAt(0)), KEYS[key].length() + 1);
        }
    }

    private static void faultOfTheNinthBracket() {
        fits("pay " + times("(", 8) + "n" + times(")", 8));
        fault("pay " + times("(", 9) + "n" + times(")", 9), 12);
        fault("pay " + times("(", 9), 12);
        fault("pay " + times("(", 8), 12);
        fits("pay (n)" + times("+(n)", 10));
        fits("pay " + times("(", 7) + "(n)+(k)" + times(")", 7));
        fault("pay " + times("(", 7) + "(n)+((k))" + times(")", 7), 16);
    }

    private static void faultOfTheNinthNot() {
        fits("pay " + times("!", 8) + "n");
        fault("pay " + times("!", 9) + "n", 12);
        fault("pay " + times("!", 9), 12);
        fault("pay " + times("!", 8), 12);
        fits("pay !n" + times("+!n", 10));
        fits("pay " + times("!", 7) + "(!n+!k)");
        fault("pay " + times("!", 7) + "(!n+!!k)", 16);
        fits("pay " + times("!", 8) + "(n)+" + times("!", 8) + "(n)");
    }

    private static void eachByItself() {
        fits("pay " + times("!(", 8) + "n" + times(")", 8));
        fits("pay " + times("(!", 8) + "n" + times(")", 8));
        fault("pay " + times("!(", 8) + "!n" + times(")", 8), 20);
        fault("pay " + times("!(", 8) + "(n)" + times(")", 8), 20);
        fits("pay " + times("!", 8) + times("(", 8) + "n" + times(")", 8));
    }

    private static void faultOfASecondTest() {
        for (String one : new String[] {"<", "=", ">"}) {
            for (String other : new String[] {"<", "=", ">"}) {
                fault("pay n" + one + "k" + other + "r", 7);
                fault("pay n" + one + "k+1*2" + other + "r", 11);
                fits("pay (n" + one + "k)" + other + "r");
                fits("pay n" + one + "(k" + other + "r)");
                fits("pay n" + one + "k&k" + other + "r");
                fits("pay n" + one + "k|k" + other + "r");
            }
        }
        fault("pay n<=k", 6);
        fault("pay n==k", 6);
    }

    private static void faultOfOtherSigns() {
        String known = " !&()*+-/0123456789<=>abcdefghijklmnopqrstuvwxyz|";
        for (char sign = 0; sign < 256; sign++) {
            if (known.indexOf(sign) < 0) {
                fault("pay n" + sign, 5);
                fault("pay " + sign, 4);
                fault("" + sign, 0);
            }
        }
    }

    private static void faultOfWhatGoesOnBehindIt() {
        fault("pay )", 4);
        fault("pay n)", 5);
        fault("pay (n))", 7);
        fault("pay ()", 5);
        fault("pay n(k)", 5);
        fault("pay (n)(k)", 7);
        fault("pay (n)k", 7);
        fault("pay n!k", 5);
        fault("pay n !", 6);
        fault("pay -n", 4);
        fault("pay +n", 4);
        fault("pay *n", 4);
        fault("pay n--k", 6);
        fault("pay n&&k", 6);
        fault("pay n||k", 6);
        fault("pay (n+)", 7);
        fault("pay !)", 5);
        fault("pay n+k)-1", 7);
        fault("pay n q ((((", 6);
    }

    private static void ofAsksForTextAndWhat() {
        PrisonShops x = new PrisonShops();
        Due.is("27: there is no TEXT 0", x.of(0, 0), BAD);
        Due.text(x, 7, "save g");
        Due.row("27: a TEXT", what -> x.of(0, what), 3, 7, 1);
        Due.is("27: what -1", x.of(0, -1), BAD);
        Due.is("27: what 3", x.of(0, 3), BAD);
        Due.is("27: the least what", x.of(0, LEAST), BAD);
        Due.is("27: the most what", x.of(0, MOST), BAD);
        Due.is("27: no TEXT 1", x.of(1, 0), BAD);
        Due.is("27: no TEXT -1", x.of(-1, 0), BAD);
        Due.is("27: NONE is no TEXT", x.of(NONE, 0), BAD);
    }

    private static void ofCountsNumbersAndNames() {
        PrisonShops x = new PrisonShops();
        Due.text(x, 0, "pay !((n+12)*(k/7))|!r");
        Due.is("27: signs are none", x.of(0, 2), 5);
        Due.text(x, 0, "victim 0");
        Due.is("27: a NUMBER", x.of(1, 2), 1);
        Due.is("27: KEY 2", x.of(1, 0), 2);
    }

    private static void whyByDay() {
        PrisonShops x = new PrisonShops();
        Due.text(x, 2, "lost 1");
        Due.text(x, 4, "lost 2");
        Due.text(x, 3, "lost 3");
        int[] due = {NONE, NONE, 0, 2, 1, 1};
        for (int day = 0; day < due.length; day++) {
            Due.is("28: in force on DAY " + day + ", with the latest DAY", x.why(1), due[day]);
            x.run(1);
        }
        PrisonShops y = new PrisonShops();
        Due.text(y, 999, "pay 9");
        for (int i = 0; i < 16; i++) {
            y.run(60);
        }
        y.run(38);
        Due.is("28: not on DAY 998", y.why(0), NONE);
        y.run(1);
        Due.is("28: on DAY 999", y.why(0), 0);
    }

    private static void whyByNumber() {
        PrisonShops x = new PrisonShops();
        for (int i = 0; i < 12; i++) {
            Due.text(x, i == 5 || i == 7 ? 1 : 0, "days " + i);
            Due.is("28: of several the greatest number", x.why(5), i == 5 ? 4 : i == 7 ? 6 : i);
        }
        x.run(1);
        Due.is("28: of several with the latest DAY", x.why(5), 7);
        Due.is("28: which is asked now", x.rules(5, 0, 0, 0), 7);
    }

    private static void whyAsksForKey() {
        PrisonShops x = new PrisonShops();
        for (int key = 0; key < 6; key++) {
            Due.is("28: NONE", x.why(key), NONE);
        }
        for (int key : new int[] {LEAST, -1, 6, MOST}) {
            Due.is("28: no KEY " + key, x.why(key), BAD);
        }
        for (int key = 0; key < 6; key++) {
            Due.text(x, 0, KEYS[key] + " 1");
            Due.is("28: of that KEY", x.why(key), key);
            Due.is("28: not of the next", x.why((key + 1) % 6), key < 5 ? NONE : 0);
        }
    }

    private static void rulesWithoutAText() {
        PrisonShops x = new PrisonShops();
        Due.is("29: without a TEXT: of pay n", x.rules(0, 104, 3, 2), 104);
        Due.is("29: of pay 0", x.rules(0, 0, 3, 2), 0);
        for (int key = 1; key < 6; key++) {
            Due.is("29: of all others 0", x.rules(key, 104, 3, 2), 0);
        }
        Due.text(x, 1, "lost 9");
        Due.is("29: a TEXT that is not in force", x.rules(1, 1, 1, 1), 0);
    }

    private static void rulesAreHeldWithin0To9999() {
        for (int key = 0; key < 6; key++) {
            PrisonShops x = new PrisonShops();
            Due.text(x, 0, KEYS[key] + " " + NAMES[key].charAt(0));
            int[] told = {LEAST, -1, 0, 1, 9998, 9999, 10000, MOST};
            int[] due = {0, 0, 0, 1, 9998, 9999, 9999, 9999};
            for (int i = 0; i < told.length; i++) {
                Due.is("29: " + KEYS[key] + " of " + told[i], x.rules(key, told[i], 0, 0), due[i]);
            }
        }
    }

    private static void rulesByNamesInTheirOrder() {
        String[] texts = {"pay n*100+k*10+r", "lost k", "victim g*10+o", "save g*10+t", "least g", "days w*10+k"};
        int[] due = {123, 1, 12, 12, 1, 12};
        PrisonShops x = new PrisonShops();
        for (int key = 0; key < 6; key++) {
            Due.text(x, 0, texts[key]);
            Due.is("29: " + texts[key], x.rules(key, 1, 2, 3), due[key]);
            boolean three = key == 0;
            boolean two = key != 1 && key != 4;
            Due.is("29: others do not matter", x.rules(key, 1, two ? 2 : MOST, three ? 3 : LEAST), due[key]);
        }
    }

    private static void rulesAskForKey() {
        PrisonShops x = new PrisonShops();
        for (int key : new int[] {LEAST, -1, 6, MOST}) {
            Due.is("29: BAD: no KEY " + key, x.rules(key, 1, 1, 1), BAD);
        }
    }

    private static void rulesOnTheirDay() {
        PrisonShops x = new PrisonShops();
        Due.text(x, 1, "least 10");
        Due.text(x, 2, "least 20");
        int[] due = {0, 10, 20, 20};
        for (int day = 0; day < due.length; day++) {
            Due.is("29: now, on DAY " + day, x.rules(4, 0, 0, 0), due[day]);
            x.run(1);
        }
    }

    private static void intsWrap() {
        gives("n+1<0", MOST, 0, 0, 1);
        gives("n-1>0", LEAST, 0, 0, 1);
        gives("n*n", 65536, 0, 0, 0);
        gives("n*n*2=0-n*n*2", 32768, 0, 0, 1);
        gives("n+k", MOST, LEAST, 0, 0);
        gives("n+n+2", MOST, 0, 0, 0);
        gives("9999*9999*9999*9999*9999>0", 0, 0, 0, 1);
        gives("n*(0-1)=n", LEAST, 0, 0, 1);
        gives("n/(0-1)=n", LEAST, 0, 0, 1);
        gives("0-n=n", LEAST, 0, 0, 1);
    }

    private static void divisionCutsTowards0() {
        gives("n/k", 7, 2, 0, 3);
        gives("0-n/k", -7, 2, 0, 3);
        gives("0-n/k", 7, -2, 0, 3);
        gives("n/k", -7, -2, 0, 3);
        gives("n/k+5", -1, 2, 0, 5);
        gives("(0-1)/n+5", 9999, 0, 0, 5);
    }

    private static void divisionBy0Is0() {
        gives("n/k", 7, 0, 0, 0);
        gives("n/0+3", 7, 0, 0, 3);
        gives("0/0+3", 0, 0, 0, 3);
        gives("n/(k-k)/r+3", LEAST, 5, 0, 3);
        gives("1|n/k", 1, 0, 0, 1);
        gives("0&n/k", 1, 0, 0, 0);
    }

    private static void testsGive1Or0() {
        int[] k = {4, 5, 6};
        int[] less = {0, 0, 1};
        int[] equal = {0, 1, 0};
        int[] more = {1, 0, 0};
        for (int i = 0; i < 3; i++) {
            gives("n<k", 5, k[i], 0, less[i]);
            gives("n=k", 5, k[i], 0, equal[i]);
            gives("n>k", 5, k[i], 0, more[i]);
        }
        gives("n<k", LEAST, MOST, 0, 1);
        gives("n>k", LEAST, MOST, 0, 0);
        gives("(n<k)+(n<k)*10", 1, 2, 0, 11);
    }

    private static void notGives1Or0() {
        gives("!n", 0, 0, 0, 1);
        gives("!n", 1, 0, 0, 0);
        gives("!n", -1, 0, 0, 0);
        gives("!!n", 7, 0, 0, 1);
        gives("!!!n", 7, 0, 0, 0);
        gives("!n=0", 5, 0, 0, 1);
        gives("!(n=0)", 5, 0, 0, 1);
        gives("!n*5+k", 0, 2, 0, 7);
        gives("5-!n-!k", 0, 0, 0, 3);
    }

    private static void whatIsNot0IsTrue() {
        int[] some = {-1, 0, 2, LEAST};
        for (int n : some) {
            for (int k : some) {
                gives("n&k", n, k, 0, n != 0 && k != 0 ? 1 : 0);
                gives("n|k", n, k, 0, n != 0 || k != 0 ? 1 : 0);
            }
        }
        gives("n&k", 1, 2, 0, 1);
        gives("n|k", 4, 8, 0, 1);
        gives("n&k&r", 1, 2, 4, 1);
        gives("n|k|r", 0, 0, 4, 1);
    }

    private static void theLoosestFirst() {
        gives("n|k&r", 1, 0, 0, 1);
        gives("n&k|r", 0, 0, 1, 1);
        gives("n&k|r", 1, 0, 0, 0);
        gives("n&k=r", 2, 3, 3, 1);
        gives("n&k=r", 2, 3, 2, 0);
        gives("n=k&r", 3, 3, 2, 1);
        gives("n<k+r", 4, 3, 2, 1);
        gives("n+k>r", 4, 3, 6, 1);
        gives("n+k*r", 4, 3, 6, 22);
        gives("n*k+r", 4, 3, 6, 18);
        gives("n-k/r", 4, 6, 3, 2);
        gives("(n-k)/r", 9, 3, 3, 2);
        gives("!n+k", 0, 5, 0, 6);
        gives("!(n+k)", -5, 5, 0, 1);
    }

    private static void theLeftmostFirst() {
        gives("n-k-r", 10, 3, 2, 5);
        gives("n-k+r", 10, 3, 2, 9);
        gives("n/k/r", 100, 5, 2, 10);
        gives("n/k*r", 7, 2, 3, 9);
        gives("n*k/r", 7, 2, 3, 4);
        gives("n-(k-r)", 10, 3, 2, 9);
        gives("n/(k*r)", 100, 5, 2, 10);
    }

    private static void numbersOf1To4Digits() {
        gives("7", 0, 0, 0, 7);
        gives("42", 0, 0, 0, 42);
        gives("123", 0, 0, 0, 123);
        gives("9999", 0, 0, 0, 9999);
        gives("0009", 0, 0, 0, 9);
        gives("0", 9, 9, 9, 0);
    }
}
