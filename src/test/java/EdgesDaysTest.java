/** Promises 30 to 37 and section 4 of the Terms: one test for each sentence that names an edge, its words in the test's labels. */
public final class EdgesDaysTest {
    private static final int BAD = PrisonShops.BAD, NO = PrisonShops.NO, FULL = PrisonShops.FULL, NONE = PrisonShops.NONE;
    private static final int KIND = PrisonShops.KIND;
    private static final int LEAST = Integer.MIN_VALUE, MOST = Integer.MAX_VALUE;

    public static void main(String[] args) {
        payOfNothing();
        payTheLeastStays();
        payTheLeastAboveWhatWasEarned();
        payVictimsFirst();
        payVictimsOwesAtMost();
        payThenSave();
        paySaveByDaysToTerm();
        payOwesNothing();
        payOfTheFree();
        payAsksForHand();
        earnedIs99999AtMost();
        coinIs99999AtMost();
        savedIs99999AtMost();
        takesIsWhatPayWouldTake();
        takesAsksForHandAndWhat();
        earnSinceSuchACount();
        earnOf0IsNoEvent();
        earn99AtMost();
        earnByTheSkill();
        earnRefused();
        earnFullAheadOfWhatItGives();
        earnOf40Events();
        loseIs1To99();
        loseOf40Events();
        loseRefused();
        appealOfALose();
        appealOfAnEarn();
        appealTwice();
        appealOfTheFree();
        appealIsNoEventMore();
        eventAsksForEventAndWhat();
        endAsKnown();
        endBelow0();
        endAsksForHandAndDay();
        runIs1To60();
        runNotAbove999();
        dayOfCourtIsNothing();
        dayOfALockedShop();
        dayOfWork();
        dayWithoutAShop();
        dayOfTheFree();
        skillWithLearnt10();
        skillIs3AtMost();
        payIsOfTheSkillOnThatDay();
        ordersAreDoneByDateThenNumber();
        ordersAsMadeIsAsMuch();
        ordersBehindOneThatIsNotDone();
        ordersOfALockedShop();
        locksAreADayLess();
        gateOnTheDayOfTheEnd();
        gateByDaysEarnedAndLost();
        gateAsKnownOnThatDay();
        gateHasEarnedAndSaved();
        gateIs99999AtMost();
        gateLosesTools();
        Due.end();
    }

    /** Shop 0 with HAND 0 in it, that earns so much a DAY. */
    private static PrisonShops begun(int skill, int term, String pay) {
        PrisonShops x = new PrisonShops();
        x.shop(5, 3, 0);
        x.hand(0, skill, term);
        x.put(0, 0);
        if (!pay.isEmpty()) {
            Due.text(x, 0, "pay " + pay);
        }
        return x;
    }

    private static void payOfNothing() {
        PrisonShops x = begun(0, 99, "");
        Due.text(x, 0, "save 5");
        Due.text(x, 0, "victim 5");
        x.be(0, 3, 9);
        Due.is("30: EARNED is 0", x.pay(0), 0);
        Due.row("30: nothing changes", what -> x.is(0, 3 + what), 9, 0, 0);
    }

    private static void payTheLeastStays() {
        PrisonShops x = begun(0, 99, "100");
        Due.text(x, 0, "least 60");
        Due.text(x, 0, "victim 9999");
        Due.text(x, 0, "save 9999");
        x.be(0, 3, 15);
        x.run(1);
        Due.is("30: what is left (with THE LEAST)", x.pay(0), 60);
        Due.is("30: OWES is less", x.is(0, 3), 0);
        Due.is("30: SAVED more", x.is(0, 5), 25);
        Due.is("30: comes to COIN", x.is(0, 4), 60);
        Due.is("30: EARNED is 0", x.is(0, 10), 0);
    }

    private static void payTheLeastAboveWhatWasEarned() {
        for (int least = 99; least <= 101; least++) {
            PrisonShops x = begun(0, 99, "100");
            Due.text(x, 0, "least " + least);
            Due.text(x, 0, "victim g");
            Due.text(x, 0, "save g");
            x.be(0, 3, 9999);
            x.run(1);
            int above = Math.max(0, 100 - least);
            Due.is("30: above THE LEAST " + least + " (0 at least)", x.pay(0), 100 - above);
            Due.is("30: OWES", x.is(0, 3), 9999 - above);
            Due.is("30: SAVED", x.is(0, 5), 0);
        }
    }

    private static void payVictimsFirst() {
        PrisonShops x = begun(0, 99, "100");
        Due.text(x, 0, "least 10");
        Due.text(x, 0, "victim 85");
        Due.text(x, 0, "save 85");
        x.be(0, 3, 9999);
        x.run(1);
        Due.is("30: first victim, then save, as far as there is", x.pay(0), 10);
        Due.is("30: 85 to victims", x.is(0, 3), 9914);
        Due.is("30: 5 saved", x.is(0, 5), 5);
    }

    private static void payVictimsOwesAtMost() {
        for (int owes = 29; owes <= 31; owes++) {
            PrisonShops x = begun(0, 99, "100");
            Due.text(x, 0, "victim 30");
            x.be(0, 3, owes);
            x.run(1);
            Due.is("30: OWES at most", x.pay(0), 100 - Math.min(30, owes));
            Due.is("30: OWES is not below 0", x.is(0, 3), Math.max(0, owes - 30));
        }
    }

    private static void payThenSave() {
        for (int save = 99; save <= 101; save++) {
            PrisonShops x = begun(0, 99, "100");
            Due.text(x, 0, "save " + save);
            x.run(1);
            Due.is("30: as far as there is", x.pay(0), save == 99 ? 1 : 0);
            Due.is("30: SAVED", x.is(0, 5), Math.min(save, 100));
        }
    }

    private static void paySaveByDaysToTerm() {
        PrisonShops x = begun(0, 5, "100");
        x.lose(0, 9);
        Due.text(x, 0, "save 10+t");
        int[] due = {14, 13, 12, 11, 10, 9, 8};
        for (int day = 1; day <= due.length; day++) {
            x.run(1);
            x.pay(0);
            Due.is("30: t DAYS to TERM, on DAY " + day, x.is(0, 5), sum(due, day));
        }
    }

    private static int sum(int[] row, int n) {
        int sum = 0;
        for (int i = 0; i < n; i++) {
            sum += row[i];
        }
        return sum;
    }

    private static void payOwesNothing() {
        PrisonShops x = begun(0, 99, "100");
        Due.text(x, 0, "victim 50");
        x.run(1);
        Due.is("30: nothing to victims", x.takes(0, 0), 0);
        Due.is("30: all to COIN", x.pay(0), 100);
    }

    private static void payOfTheFree() {
        PrisonShops x = begun(0, 1, "100");
        x.run(1);
        Due.is("30: not FREE yet", x.pay(0), 100);
        x.run(1);
        Due.is("30: NO: it is FREE", x.pay(0), NO);
        Due.is("30: COIN with what it had at the GATE", x.is(0, 4), 200);
    }

    private static void payAsksForHand() {
        PrisonShops x = begun(0, 99, "100");
        for (int hand : new int[] {LEAST, NONE, -1, 1, MOST}) {
            Due.is("30: no HAND " + hand, x.pay(hand), BAD);
        }
    }

    private static void earnedIs99999AtMost() {
        PrisonShops x = begun(0, 999, "9999");
        x.run(10);
        Due.is("30: ten DAYS", x.is(0, 10), 99990);
        x.run(1);
        Due.is("30: EARNED is 99999 at most", x.is(0, 10), 99999);
        x.lock(0, 9);
        Due.text(x, 0, "lost 7");
        x.run(1);
        Due.is("30: of what is lost, too", x.is(0, 10), 99999);
        x.lock(0, 0);
        x.run(60);
        Due.is("30: more is lost", x.is(0, 10), 99999);
        PrisonShops y = begun(0, 999, "9999");
        y.run(10);
        Due.text(y, 0, "pay 9");
        y.run(1);
        Due.is("30: as much as 99999", y.is(0, 10), 99999);
    }

    private static void coinIs99999AtMost() {
        PrisonShops x = begun(0, 999, "9999");
        x.run(10);
        x.pay(0);
        Due.text(x, 0, "pay 9");
        x.run(1);
        x.pay(0);
        Due.is("30: COIN as much as 99999", x.is(0, 4), 99999);
        x.run(1);
        x.pay(0);
        Due.is("30: COIN is 99999 at most", x.is(0, 4), 99999);
        Due.is("30: more is lost", x.is(0, 10), 0);
    }

    private static void savedIs99999AtMost() {
        PrisonShops x = begun(0, 999, "9999");
        Due.text(x, 0, "save 9999");
        for (int i = 0; i < 10; i++) {
            x.run(1);
            x.pay(0);
        }
        Due.is("30: SAVED of ten DAYS", x.is(0, 5), 99990);
        x.run(1);
        x.pay(0);
        Due.is("30: SAVED is 99999 at most", x.is(0, 5), 99999);
        Due.is("30: more is lost, not in COIN", x.is(0, 4), 0);
    }

    private static void takesIsWhatPayWouldTake() {
        PrisonShops x = begun(0, 99, "100");
        Due.text(x, 0, "least 20");
        Due.text(x, 0, "victim g/4");
        Due.text(x, 0, "save o/10");
        Due.text(x, 0, "save g/10");
        x.be(0, 3, 50);
        Due.row("31: of nothing", what -> x.takes(0, what), 0, 0, 0);
        x.run(1);
        Due.row("31: of 100", what -> x.takes(0, what), 25, 10, 65);
        Due.row("31: as often as it is asked", what -> x.takes(0, what), 25, 10, 65);
        Due.is("31: PAY takes it", x.pay(0), 65);
        Due.row("31: and then nothing", what -> x.takes(0, what), 0, 0, 0);
    }

    private static void takesAsksForHandAndWhat() {
        PrisonShops x = begun(0, 1, "100");
        for (int what : new int[] {LEAST, -1, 3, MOST}) {
            Due.is("31: no what " + what, x.takes(0, what), BAD);
        }
        for (int hand : new int[] {LEAST, NONE, -1, 1, MOST}) {
            Due.is("31: no HAND " + hand, x.takes(hand, 0), BAD);
        }
        x.run(2);
        Due.row("31: NO: it is FREE", what -> x.takes(0, what), NO, NO, NO);
        Due.is("31: BAD stands ahead of NO", x.takes(0, 3), BAD);
        Due.is("31: BAD below stands ahead of NO", x.takes(0, -1), BAD);
    }

    private static void earnSinceSuchACount() {
        PrisonShops x = begun(0, 999, "");
        Due.text(x, 0, "days w");
        x.run(4);
        Due.is("32: of the beginning", x.earn(0), 4);
        Due.is("32: none since", x.earn(0), 0);
        x.run(1);
        Due.is("32: one since", x.earn(0), 1);
        x.be(0, 9, 5);
        x.run(1);
        x.lock(0, 1);
        x.run(1);
        Due.is("32: TURNS only", x.earn(0), 0);
        Due.is("32: two EVENTS", x.count(7), 2);
    }

    private static void earnOf0IsNoEvent() {
        PrisonShops x = begun(0, 999, "");
        x.run(5);
        Due.is("32: without a TEXT", x.earn(0), 0);
        Due.text(x, 0, "days w");
        Due.is("32: TURNS are counted from now on", x.earn(0), 0);
        Due.text(x, 0, "days w-9");
        x.run(9);
        Due.is("32: 0 DAYS", x.earn(0), 0);
        x.run(8);
        Due.is("32: below 0 is 0", x.earn(0), 0);
        Due.is("32: no EVENT comes", x.count(7), 0);
        x.run(10);
        Due.is("32: one DAY", x.earn(0), 1);
        Due.is("32: an EVENT comes", x.count(7), 1);
    }

    private static void earn99AtMost() {
        PrisonShops x = begun(0, 999, "");
        int[] due = {98, 99, 99, 99};
        String[] days = {"98", "99", "100", "9999"};
        for (int i = 0; i < due.length; i++) {
            Due.text(x, 0, "days " + days[i]);
            Due.is("32: " + days[i] + ", 99 at most", x.earn(0), due[i]);
            Due.is("32: the EVENT's DAYS", x.event(i, 1), due[i]);
        }
    }

    private static void earnByTheSkill() {
        PrisonShops x = begun(0, 999, "");
        Due.text(x, 0, "days w*10+k");
        x.run(9);
        Due.is("32: w 9, k 0", x.earn(0), 90);
        x.run(1);
        Due.is("32: w 1, k 1", x.earn(0), 11);
        x.be(0, 1, 3);
        Due.is("32: w 0, k 3", x.earn(0), 3);
    }

    private static void earnRefused() {
        PrisonShops x = begun(0, 1, "");
        for (int hand : new int[] {LEAST, NONE, -1, 1, MOST}) {
            Due.is("32: no HAND " + hand, x.earn(hand), BAD);
        }
        Due.text(x, 0, "days w");
        x.run(2);
        Due.is("32: NO: it is FREE", x.earn(0), NO);
        Due.is("32: no EVENT", x.count(7), 0);
    }

    private static void earnFullAheadOfWhatItGives() {
        PrisonShops x = begun(0, 999, "");
        x.hand(0, 0, 1);
        x.run(2);
        for (int i = 0; i < 40; i++) {
            x.lose(0, 1);
        }
        Due.is("32: FULL: 40 EVENTS, where 0 would come", x.earn(0), FULL);
        Due.text(x, 0, "days w");
        Due.is("32: FULL: 40 EVENTS, where 2 would come", x.earn(0), FULL);
        Due.is("32: NO stands ahead of FULL", x.earn(1), NO);
        Due.is("32: BAD stands ahead of FULL", x.earn(2), BAD);
    }

    private static void earnOf40Events() {
        PrisonShops x = begun(0, 999, "");
        Due.text(x, 0, "days 1");
        for (int i = 0; i < 40; i++) {
            Due.is("32: EVENT " + i, x.earn(0), 1);
        }
        Due.is("32: 40 at most", x.earn(0), FULL);
        Due.is("32: 40", x.count(7), 40);
        Due.is("32: END", x.end(0, 0), 959);
    }

    private static void loseIs1To99() {
        PrisonShops x = begun(0, 100, "");
        for (int n : new int[] {LEAST, -1, 0, 100, MOST}) {
            Due.is("33: no LOSE of " + n, x.lose(0, n), BAD);
        }
        Due.is("33: LOSE 1", x.lose(0, 1), 0);
        Due.is("33: LOSE 99", x.lose(0, 99), 1);
        Due.is("33: as many below 0", x.event(0, 1), -1);
        Due.is("33: as many below 0, too", x.event(1, 1), -99);
        Due.is("33: END", x.end(0, 0), 200);
    }

    private static void loseOf40Events() {
        PrisonShops x = begun(0, 100, "");
        x.hand(0, 0, 100);
        for (int i = 0; i < 40; i++) {
            Due.is("33: EVENTS are numbered from 0", x.lose(i % 2, 1), i);
        }
        Due.is("33: FULL with 40 of them", x.lose(0, 1), FULL);
        Due.is("33: FULL of another HAND", x.lose(1, 1), FULL);
        Due.is("33: no EVENT 40", x.event(40, 0), BAD);
        Due.is("33: END", x.end(0, 0), 120);
    }

    private static void loseRefused() {
        PrisonShops x = begun(0, 1, "");
        for (int hand : new int[] {LEAST, NONE, -1, 1, MOST}) {
            Due.is("33: no HAND " + hand, x.lose(hand, 1), BAD);
        }
        x.hand(0, 0, 999);
        x.run(2);
        Due.is("33: NO: it is FREE", x.lose(0, 1), NO);
        Due.is("33: BAD stands ahead of NO", x.lose(0, 100), BAD);
        for (int i = 0; i < 40; i++) {
            x.lose(1, 1);
        }
        Due.is("33: NO stands ahead of FULL", x.lose(0, 1), NO);
        Due.is("33: BAD stands ahead of FULL", x.lose(1, 0), BAD);
        Due.is("33: FULL", x.lose(1, 1), FULL);
    }

    private static void appealOfALose() {
        PrisonShops x = begun(0, 100, "");
        x.run(2);
        x.lose(0, 9);
        x.run(2);
        Due.is("34: BACK of a LOSE", x.appeal(0), 1);
        Due.row("34: the EVENT", what -> x.event(0, what), 0, -9, 2, 4);
        for (int event : new int[] {LEAST, NONE, -1, 1, MOST}) {
            Due.is("34: no EVENT " + event, x.appeal(event), BAD);
        }
    }

    private static void appealOfAnEarn() {
        PrisonShops x = begun(0, 1, "");
        Due.text(x, 0, "days 1");
        x.earn(0);
        Due.is("34: KIND: no LOSE", x.appeal(0), KIND);
        Due.is("34: not told", x.event(0, 3), NONE);
        x.run(1);
        Due.is("34: FREE", x.is(0, 11), 1);
        Due.is("34: KIND stands ahead of NO", x.appeal(0), KIND);
    }

    private static void appealTwice() {
        PrisonShops x = begun(0, 100, "");
        x.lose(0, 9);
        x.appeal(0);
        x.run(3);
        Due.is("34: NO: it is BACK already", x.appeal(0), NO);
        Due.is("34: on the DAY on which it was told first", x.event(0, 3), 0);
    }

    private static void appealOfTheFree() {
        PrisonShops x = begun(0, 2, "");
        x.lose(0, 1);
        x.run(3);
        Due.is("34: not FREE on its last DAY", x.is(0, 11), 0);
        x.run(1);
        Due.is("34: FREE", x.is(0, 11), 1);
        Due.is("34: NO: the HAND is FREE", x.appeal(0), NO);
        Due.is("34: not BACK", x.event(0, 3), NONE);
        Due.is("34: END", x.end(0, 999), 3);
    }

    private static void appealIsNoEventMore() {
        PrisonShops x = begun(0, 100, "");
        for (int i = 0; i < 40; i++) {
            x.lose(0, 1);
        }
        Due.is("34: 40 EVENTS", x.appeal(39), 1);
        Due.is("34: 40 still", x.count(7), 40);
        Due.is("34: END", x.end(0, 0), 139);
    }

    private static void eventAsksForEventAndWhat() {
        PrisonShops x = begun(0, 100, "");
        Due.is("35: there is no EVENT 0", x.event(0, 0), BAD);
        x.run(3);
        x.lose(0, 2);
        Due.row("35: a LOSE", what -> x.event(0, what), 0, -2, 3, NONE);
        for (int what : new int[] {LEAST, -1, 4, MOST}) {
            Due.is("35: no what " + what, x.event(0, what), BAD);
        }
        for (int event : new int[] {LEAST, NONE, -1, 1, MOST}) {
            Due.is("35: no EVENT " + event, x.event(event, 0), BAD);
        }
    }

    private static void endAsKnown() {
        PrisonShops x = begun(0, 500, "");
        x.hand(0, 0, 600);
        Due.text(x, 0, "days 5");
        x.run(3);
        x.lose(0, 20);
        x.run(3);
        x.earn(0);
        x.lose(1, 7);
        x.run(3);
        x.appeal(0);
        int[] due = {500, 500, 500, 520, 520, 520, 515, 515, 515, 495, 495};
        for (int day = 0; day < due.length; day++) {
            Due.is("36: as known on DAY " + day, x.end(0, day), due[day]);
            Due.is("36: of the other, on DAY " + day, x.end(1, day), day < 6 ? 600 : 607);
        }
        Due.is("36: as known on DAY 999", x.end(0, 999), 495);
        PrisonShops y = begun(0, 500, "");
        y.run(1);
        y.lose(0, 20);
        y.appeal(0);
        Due.is("36: told and BACK on one DAY", y.end(0, 1), 500);
    }

    private static void endBelow0() {
        PrisonShops x = begun(0, 1, "");
        Due.text(x, 0, "days 99");
        x.earn(0);
        x.earn(0);
        Due.is("36: END is below 0", x.end(0, 0), -197);
        PrisonShops y = begun(0, 999, "");
        y.lose(0, 99);
        Due.is("36: END is above 999", y.end(0, 0), 1098);
    }

    private static void endAsksForHandAndDay() {
        PrisonShops x = begun(0, 7, "");
        for (int day : new int[] {LEAST, NONE, -1, 1000, MOST}) {
            Due.is("36: no DAY " + day, x.end(0, day), BAD);
        }
        for (int hand : new int[] {LEAST, NONE, -1, 1, MOST}) {
            Due.is("36: no HAND " + hand, x.end(hand, 0), BAD);
        }
        Due.is("36: DAY 0", x.end(0, 0), 7);
        Due.is("36: DAY 999", x.end(0, 999), 7);
        x.run(9);
        Due.is("36: of one who is FREE", x.end(0, 9), 7);
    }

    private static void runIs1To60() {
        PrisonShops x = new PrisonShops();
        for (int n : new int[] {LEAST, -1, 0, 61, MOST}) {
            Due.is("37: no run of " + n, x.run(n), BAD);
        }
        Due.is("37: a DAY", x.run(1), 1);
        Due.is("37: 60 DAYS", x.run(60), 61);
    }

    private static void runNotAbove999() {
        PrisonShops x = begun(0, 999, "");
        for (int i = 0; i < 16; i++) {
            x.run(60);
        }
        Due.is("37: it would be 1000", x.run(40), FULL);
        Due.is("37: none of them went by", x.is(0, 6), 960);
        Due.is("37: BAD stands ahead of FULL", x.run(61), BAD);
        Due.is("37: 999", x.run(39), 999);
        Due.is("37: it would be 1000 now", x.run(1), FULL);
        Due.is("37: 999 TURNS", x.is(0, 6), 999);
    }

    private static void dayOfCourtIsNothing() {
        PrisonShops x = begun(0, 99, "100");
        Due.text(x, 0, "lost 30");
        x.be(0, 9, 1);
        x.lock(0, 2);
        x.run(1);
        Due.is("37: LOCKED: lost", x.is(0, 10), 30);
        x.run(1);
        Due.is("37: if COURT is this DAY nothing, LOCKED or not", x.is(0, 10), 30);
        x.be(0, 9, 2);
        x.run(1);
        Due.is("37: nothing of pay", x.is(0, 10), 30);
        Due.is("37: nothing is MADE", x.has(0, 6), 0);
        Due.is("37: no TURN", x.is(0, 6), 0);
        Due.is("37: nothing LEARNT", x.is(0, 7), 0);
        x.run(1);
        Due.is("37: the DAY behind it", x.is(0, 10), 130);
    }

    private static void dayOfALockedShop() {
        PrisonShops x = begun(2, 99, "100");
        Due.text(x, 0, "lost k*10+1");
        x.lock(0, 1);
        x.run(1);
        Due.is("37: EARNED has lost more", x.is(0, 10), 21);
        Due.row("37: no TURN, nothing LEARNT", what -> x.is(0, 6 + what), 0, 0);
        Due.is("37: nothing MADE", x.has(0, 6), 0);
        PrisonShops y = begun(2, 99, "100");
        y.lock(0, 1);
        y.run(1);
        Due.is("37: without a TEXT nothing", y.is(0, 10), 0);
    }

    private static void dayOfWork() {
        PrisonShops x = begun(3, 99, "");
        x.rate(0, 99);
        x.run(1);
        Due.is("37: PIECES: RATE and SKILL", x.has(0, 6), 102);
        Due.is("37: pay without a TEXT: n", x.is(0, 10), 102);
        Due.row("37: TURNS and LEARNT are 1 more", what -> x.is(0, 6 + what), 1, 1);
        PrisonShops y = begun(0, 99, "");
        y.rate(0, 0);
        y.run(1);
        Due.is("37: no PIECES", y.has(0, 6), 0);
        Due.is("37: no pay", y.is(0, 10), 0);
        Due.is("37: a TURN all the same", y.is(0, 6), 1);
        PrisonShops z = begun(1, 99, "n*100+k*10+r");
        z.be(0, 0, 2);
        z.run(1);
        Due.is("37: pay of PIECES 6, SKILL 1, RISK 2", z.is(0, 10), 612);
    }

    private static void dayWithoutAShop() {
        PrisonShops x = begun(0, 99, "100");
        Due.text(x, 0, "lost 30");
        x.put(0, NONE);
        x.lock(0, 1);
        x.run(3);
        Due.row("37: in no SHOP nothing", what -> x.is(0, 6 + what), 0, 0, NONE, NONE, 0);
    }

    private static void dayOfTheFree() {
        PrisonShops x = begun(0, 2, "100");
        x.run(3);
        Due.is("37: its last DAY is one of work", x.is(0, 6), 3);
        x.run(9);
        Due.is("37: not FREE", x.is(0, 6), 3);
        Due.is("37: COIN stays", x.is(0, 4), 300);
        Due.is("37: nothing is MADE", x.has(0, 6), 15);
    }

    private static void skillWithLearnt10() {
        PrisonShops x = begun(0, 99, "");
        x.run(9);
        Due.is("37: LEARNT 9", x.is(0, 7), 9);
        Due.is("37: SKILL is not more", x.is(0, 1), 0);
        x.run(1);
        Due.is("37: LEARNT 0", x.is(0, 7), 0);
        Due.is("37: with LEARNT 10 SKILL is 1 more", x.is(0, 1), 1);
        Due.is("37: PIECES of SKILL 0", x.has(0, 6), 50);
        x.run(1);
        Due.is("37: then of SKILL 1", x.has(0, 6), 56);
    }

    private static void skillIs3AtMost() {
        PrisonShops x = begun(2, 99, "");
        x.run(10);
        Due.is("37: SKILL 3", x.is(0, 1), 3);
        x.run(9);
        Due.is("37: LEARNT goes on", x.is(0, 7), 9);
        x.run(1);
        Due.is("37: 3 at most", x.is(0, 1), 3);
        Due.is("37: LEARNT 0 all the same", x.is(0, 7), 0);
    }

    private static void payIsOfTheSkillOnThatDay() {
        PrisonShops x = begun(0, 99, "k+1");
        x.run(10);
        Due.is("37: the tenth TURN is of SKILL 0", x.is(0, 10), 10);
        x.run(1);
        Due.is("37: the next of SKILL 1", x.is(0, 10), 12);
    }

    private static void ordersAreDoneByDateThenNumber() {
        PrisonShops x = begun(0, 99, "");
        x.rate(0, 1);
        x.thing(5, 0, 1, 7);
        x.thing(5, 0, 1, 3);
        x.thing(5, 0, 1, 7);
        x.thing(5, 0, 1, 3);
        x.run(4);
        int[] due = {2, 0, 3, 1};
        for (int order = 0; order < due.length; order++) {
            Due.is("37: by DATE, then by number: ORDER " + order, x.told(order, 6), due[order]);
        }
        Due.is("37: none is OPEN", x.count(5), 0);
        Due.is("37: MADE less by PIECES", x.has(0, 6), 0);
    }

    private static void ordersAsMadeIsAsMuch() {
        PrisonShops x = begun(0, 99, "");
        x.thing(5, 0, 6, 0);
        x.run(1);
        Due.is("37: MADE 5 is less than 6", x.told(0, 6), NONE);
        x.run(1);
        Due.is("37: MADE 10 is more", x.told(0, 6), 1);
        Due.is("37: 4 are left", x.has(0, 6), 4);
        x.thing(5, 0, 9, 0);
        x.run(1);
        Due.is("37: MADE is as much as PIECES", x.told(1, 6), 2);
        Due.is("37: none is left", x.has(0, 6), 0);
        x.put(0, NONE);
        x.thing(5, 0, 1, 0);
        x.run(1);
        Due.is("37: MADE is 0", x.told(2, 6), NONE);
    }

    private static void ordersBehindOneThatIsNotDone() {
        PrisonShops x = begun(0, 99, "");
        x.shop(1, 3, 0);
        x.thing(5, 0, 9999, 1);
        x.thing(5, 0, 1, 2);
        x.thing(5, 1, 1, 0);
        x.run(9);
        Due.is("37: else none behind it is looked at", x.count(5), 3);
        Due.is("37: MADE grows", x.has(0, 6), 45);
        x.thing(5, 0, 45, 0);
        x.run(1);
        Due.is("37: one ahead of it", x.told(3, 6), 9);
        Due.is("37: the SHOP's ORDERS, not another's", x.told(2, 6), NONE);
        PrisonShops y = begun(0, 99, "");
        for (int i = 0; i < 30; i++) {
            y.thing(5, 0, 1, 30 - i);
        }
        y.rate(0, 99);
        y.run(1);
        Due.is("37: thirty on one DAY", y.count(5), 0);
        Due.is("37: MADE less by thirty", y.has(0, 6), 69);
    }

    private static void ordersOfALockedShop() {
        PrisonShops x = begun(0, 99, "");
        x.run(1);
        x.lock(0, 3);
        x.thing(5, 0, 5, 0);
        x.run(1);
        Due.is("37: what is MADE already is enough, LOCKED or not", x.told(0, 6), 1);
    }

    private static void locksAreADayLess() {
        PrisonShops x = begun(0, 99, "");
        x.shop(1, 3, 0);
        x.shop(1, 3, 0);
        x.lock(0, 2);
        x.lock(2, 1);
        int[][] due = {{2, 0, 1}, {1, 0, 0}, {0, 0, 0}, {0, 0, 0}};
        for (int[] day : due) {
            Due.row("37: for a DAY less", shop -> x.has(shop, 4), day);
            x.run(1);
        }
    }

    private static void gateOnTheDayOfTheEnd() {
        PrisonShops x = new PrisonShops();
        for (int term = 1; term <= 3; term++) {
            x.hand(0, 0, term);
        }
        int[] due = {0, 0, 1, 2, 3, 3};
        for (int day = 0; day < due.length; day++) {
            Due.is("37: whose END is this DAY: FREE ahead of DAY " + day, x.count(2), due[day]);
            x.run(1);
        }
        PrisonShops y = new PrisonShops();
        y.run(9);
        y.hand(0, 0, 1);
        Due.is("37: END is ahead of it: not FREE yet", y.is(0, 11), 0);
        y.run(1);
        Due.is("37: or ahead of it", y.is(0, 11), 1);
        PrisonShops z = new PrisonShops();
        z.hand(0, 0, 999);
        for (int i = 0; i < 16; i++) {
            z.run(60);
        }
        z.run(39);
        Due.is("37: TERM 999 never ends", z.is(0, 11), 0);
    }

    private static void gateByDaysEarnedAndLost() {
        PrisonShops x = begun(0, 5, "");
        x.hand(0, 0, 2);
        Due.text(x, 0, "days 3");
        x.earn(0);
        x.lose(1, 2);
        x.run(2);
        Due.is("37: END 2 and 4", x.count(2), 0);
        x.run(1);
        Due.is("37: DAYS earned", x.is(0, 11), 1);
        x.run(1);
        Due.is("37: DAYS lost", x.is(1, 11), 0);
        x.run(1);
        Due.is("37: END 4", x.is(1, 11), 1);
    }

    private static void gateAsKnownOnThatDay() {
        PrisonShops x = begun(0, 2, "");
        x.lose(0, 50);
        x.run(20);
        Due.is("37: as known on that DAY", x.is(0, 11), 0);
        x.appeal(0);
        Due.is("37: END is 2 now", x.end(0, 20), 2);
        Due.is("37: not FREE ahead of the DAY's end", x.is(0, 11), 0);
        x.run(1);
        Due.is("37: it counts no more", x.is(0, 11), 1);
    }

    private static void gateHasEarnedAndSaved() {
        PrisonShops x = begun(0, 2, "100");
        Due.text(x, 0, "save 30");
        x.be(0, 3, 44);
        x.run(1);
        x.pay(0);
        Due.row("37: OWES, COIN, SAVED", what -> x.is(0, 3 + what), 44, 70, 30);
        x.run(2);
        Due.row("37: COIN has EARNED and SAVED more", what -> x.is(0, 3 + what), 44, 300, 0);
        Due.row("37: in no SHOP, both 0, FREE", what -> x.is(0, 8 + what), NONE, NONE, 0, 1);
        Due.is("37: nobody is in it", x.has(0, 5), 0);
    }

    private static void gateIs99999AtMost() {
        PrisonShops x = begun(0, 25, "9999");
        Due.text(x, 0, "save 4000");
        for (int i = 0; i < 24; i++) {
            x.run(1);
            x.pay(0);
        }
        Due.is("37: SAVED", x.is(0, 5), 96000);
        Due.is("37: COIN", x.is(0, 4), 99999);
        x.run(2);
        Due.row("37: COIN is 99999 at most", what -> x.is(0, 4 + what), 99999, 0);
        Due.is("37: EARNED", x.is(0, 10), 0);
        PrisonShops y = begun(0, 15, "9999");
        y.run(16);
        Due.is("37: of EARNED alone", y.is(0, 4), 99999);
    }

    private static void gateLosesTools() {
        PrisonShops x = begun(0, 1, "");
        x.hand(0, 0, 99);
        x.put(1, 0);
        for (int i = 0; i < 4; i++) {
            x.thing(i == 3 ? 1 : 1 + i, 0, 0, 0);
        }
        x.out(0, 0);
        x.out(1, 0);
        x.out(2, 1);
        x.run(2);
        int[] where = {2, 2, 1, 0};
        int[] whom = {NONE, NONE, 1, NONE};
        Due.row("37: TOOLS that are OUT to it are LOST", thing -> x.told(thing, 4), where);
        Due.row("37: to whom", thing -> x.told(thing, 5), whom);
        Due.is("37: two are", x.count(13), 2);
        Due.is("37: LOST ones AGREE", x.bell(0, 8), 0);
        Due.is("37: they can be found", x.hang(0), 2);
    }
}
