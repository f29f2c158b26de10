/** Promises 1 to 14 and section 1 of the Terms: one test for each sentence that names an edge, its words in the test's labels. */
public final class EdgesShopsTest {
    private static final int BAD = PrisonShops.BAD, NO = PrisonShops.NO, FULL = PrisonShops.FULL, NONE = PrisonShops.NONE;
    private static final int LEAST = Integer.MIN_VALUE, MOST = Integer.MAX_VALUE;

    public static void main(String[] args) {
        daysAreZeroAtFirst();
        daysAre999AtMost();
        shopsAreThreeAtMost();
        placesAre1To5();
        risksOfShopsAre0To3();
        levelsAre0To3();
        rateIsFiveAtFirst();
        rateIs0To99();
        lockIs0To99();
        lockIsFromNowOn();
        lockIsSetAnewNotAdded();
        hasCountsHandsAndTools();
        hasAsksForShopAndWhat();
        handsAreTenAtMost();
        risksOfHandsAre0To3();
        skillsAre0To3();
        termsAre1To999();
        handsBeginWithNothing();
        isAsksForHandAndWhat();
        beRisk();
        beSkill();
        beOwes();
        beCourt();
        beNothingElse();
        barIsOnOrOff();
        barOfOneHand();
        barOfHandsThatAreNot();
        barIsOfTheTwo();
        mayByRisk();
        mayBySkill();
        mayByCourt();
        mayByLock();
        mayOfTheFree();
        mayOfWhatIsNot();
        putAsksWhetherItMay();
        putCountsPlacesOfOthers();
        putAsksWhoIsBarred();
        putToNoneIsNeverFull();
        putBadAheadOfNo();
        putHangsWhatIsOut();
        fillingIsTheMost();
        fillingIsTheMostAheadOfTheFairest();
        fillingIsTheFairest();
        fillingOfSeveralHasTheLeastShopOfHand0();
        fillingHasNoneBehindAll();
        fillingKeepsToPlaces();
        fillingKeepsTheBarredApart();
        fillingTakesWhoMayOnly();
        fillingOfNobody();
        fillingOfAll();
        fillingAsksForWhat();
        fillCountsWhoChanged();
        fillLeavesTheFree();
        fillHangsWhatIsOut();
        fillKeepsWhatIsOutToThoseWhoStay();
        neverAsksTurnsShopAndFree();
        neverOfTen();
        Due.end();
    }

    private static PrisonShops withShops(int... places) {
        PrisonShops x = new PrisonShops();
        for (int n : places) {
            x.shop(n, 3, 0);
        }
        return x;
    }

    /** Hands of RISK 0 and SKILL 0 that do not go. */
    private static void hands(PrisonShops x, int n) {
        for (int i = 0; i < n; i++) {
            x.hand(0, 0, 999);
        }
    }

    /** A hand works so many DAYS in a shop by itself, and leaves it. */
    private static void worked(PrisonShops x, int hand, int shop, int days) {
        x.put(hand, shop);
        x.run(days);
        x.put(hand, NONE);
    }

    private static void filling(String what, PrisonShops x, int count, int turns, int... shops) {
        Due.is(what + ": how many", x.filling(0), count);
        Due.is(what + ": TURNS", x.filling(1), turns);
        for (int i = 0; i < shops.length; i++) {
            Due.is(what + ": the SHOP of HAND " + i, x.filling(2 + i), shops[i]);
        }
    }

    private static void daysAreZeroAtFirst() {
        Due.is("1: the DAY that is open is 0 at first", new PrisonShops().count(10), 0);
    }

    private static void daysAre999AtMost() {
        PrisonShops x = new PrisonShops();
        for (int i = 0; i < 16; i++) {
            x.run(60);
        }
        Due.is("1: DAY 999 can be open", x.run(39), 999);
        Due.is("1: DAY 1000 can not", x.run(1), FULL);
        Due.is("1: 999 at most", x.count(10), 999);
    }

    private static void shopsAreThreeAtMost() {
        PrisonShops x = new PrisonShops();
        for (int i = 0; i < 3; i++) {
            Due.is("2: SHOPS are numbered from 0", x.shop(1, 0, 0), i);
        }
        Due.is("2: FULL with 3 of them", x.shop(1, 0, 0), FULL);
        Due.is("2: BAD stands ahead of FULL", x.shop(0, 0, 0), BAD);
        Due.is("2: no fourth one came", x.has(3, 0), BAD);
        Due.is("2: 3 of them", x.count(0), 3);
    }

    private static void placesAre1To5() {
        PrisonShops x = new PrisonShops();
        Due.is("2: PLACES 0", x.shop(0, 0, 0), BAD);
        Due.is("2: PLACES 6", x.shop(6, 0, 0), BAD);
        Due.is("2: PLACES least", x.shop(LEAST, 0, 0), BAD);
        Due.is("2: PLACES most", x.shop(MOST, 0, 0), BAD);
        Due.is("2: PLACES 1", x.shop(1, 0, 0), 0);
        Due.is("2: PLACES 5", x.shop(5, 0, 0), 1);
        Due.is("2: one place", x.has(0, 0), 1);
        Due.is("2: five places", x.has(1, 0), 5);
    }

    private static void risksOfShopsAre0To3() {
        PrisonShops x = new PrisonShops();
        Due.is("2: a RISK of -1", x.shop(1, -1, 0), BAD);
        Due.is("2: a RISK of 4", x.shop(1, 4, 0), BAD);
        Due.is("2: the least RISK", x.shop(1, LEAST, 0), BAD);
        Due.is("2: the most RISK", x.shop(1, MOST, 0), BAD);
        Due.is("2: a RISK of 0", x.shop(1, 0, 0), 0);
        Due.is("2: a RISK of 3", x.shop(1, 3, 0), 1);
        Due.is("2: RISK 0", x.has(0, 1), 0);
        Due.is("2: RISK 3", x.has(1, 1), 3);
    }

    private static void levelsAre0To3() {
        PrisonShops x = new PrisonShops();
        Due.is("2: a LEVEL of -1", x.shop(1, 0, -1), BAD);
        Due.is("2: a LEVEL of 4", x.shop(1, 0, 4), BAD);
        Due.is("2: the least LEVEL", x.shop(1, 0, LEAST), BAD);
        Due.is("2: the most LEVEL", x.shop(1, 0, MOST), BAD);
        Due.is("2: a LEVEL of 0", x.shop(1, 0, 0), 0);
        Due.is("2: a LEVEL of 3", x.shop(1, 0, 3), 1);
        Due.is("2: LEVEL 0", x.has(0, 2), 0);
        Due.is("2: LEVEL 3", x.has(1, 2), 3);
    }

    private static void rateIsFiveAtFirst() {
        PrisonShops x = withShops(1);
        Due.is("2: RATE 5", x.has(0, 3), 5);
    }

    private static void rateIs0To99() {
        PrisonShops x = withShops(1, 1);
        Due.is("3: RATE -1", x.rate(0, -1), BAD);
        Due.is("3: RATE 100", x.rate(0, 100), BAD);
        Due.is("3: the least RATE", x.rate(0, LEAST), BAD);
        Due.is("3: the most RATE", x.rate(0, MOST), BAD);
        Due.is("3: what it was", x.rate(0, 0), 5);
        Due.is("3: RATE 0", x.rate(0, 99), 0);
        Due.is("3: RATE 99", x.has(0, 3), 99);
        Due.is("3: of that SHOP only", x.has(1, 3), 5);
        Due.is("3: no SHOP 2", x.rate(2, 1), BAD);
        Due.is("3: no SHOP -1", x.rate(-1, 1), BAD);
        Due.is("3: NONE is no SHOP", x.rate(NONE, 1), BAD);
    }

    private static void lockIs0To99() {
        PrisonShops x = withShops(1, 1);
        Due.is("4: -1 DAYS", x.lock(0, -1), BAD);
        Due.is("4: 100 DAYS", x.lock(0, 100), BAD);
        Due.is("4: the least", x.lock(0, LEAST), BAD);
        Due.is("4: the most", x.lock(0, MOST), BAD);
        Due.is("4: 99 DAYS", x.lock(0, 99), 0);
        Due.is("4: 0 DAYS", x.lock(0, 0), 99);
        Due.is("4: open", x.has(0, 4), 0);
        Due.is("4: no SHOP 2", x.lock(2, 1), BAD);
        Due.is("4: no SHOP -1", x.lock(-1, 1), BAD);
        x.lock(0, 99);
        x.run(60);
        x.run(38);
        Due.is("4: the last of 99 DAYS", x.has(0, 4), 1);
        x.run(1);
        Due.is("4: behind 99 DAYS", x.has(0, 4), 0);
        x.run(1);
        Due.is("4: no DAY less than 0", x.has(0, 4), 0);
    }

    private static void lockIsFromNowOn() {
        PrisonShops x = withShops(1);
        hands(x, 1);
        x.put(0, 0);
        x.lock(0, 1);
        x.run(1);
        Due.is("4: LOCKED on the DAY that is open", x.is(0, 6), 0);
        x.run(1);
        Due.is("4: for one DAY only", x.is(0, 6), 1);
    }

    private static void lockIsSetAnewNotAdded() {
        PrisonShops x = withShops(1);
        x.lock(0, 5);
        x.run(2);
        Due.is("4: for how many it was", x.lock(0, 4), 3);
        Due.is("4: from now on", x.lock(0, 4), 4);
    }

    private static void hasCountsHandsAndTools() {
        PrisonShops x = withShops(5, 5);
        hands(x, 6);
        for (int i = 0; i < 5; i++) {
            x.put(i, 0);
        }
        x.put(5, 1);
        x.thing(0, 0, 0, 0);
        x.thing(4, 0, 1, 0);
        x.thing(5, 0, 9999, 0);
        Due.is("5: what is no TOOL is none", x.has(0, 8), 0);
        x.thing(1, 0, 0, 0);
        x.thing(2, 0, 0, 0);
        x.thing(3, 0, 0, 0);
        x.thing(3, 1, 0, 0);
        x.bell(0, 6);
        x.bell(0, 6);
        x.bell(0, 6);
        x.out(4, 0);
        x.out(6, 5);
        Due.is("5: HANDS in it", x.has(0, 5), 5);
        Due.is("5: TOOLS, LOST ones too", x.has(0, 8), 3);
        Due.is("5: of these OUT", x.has(0, 9), 1);
        Due.is("5: LOST", x.has(0, 10), 1);
        Due.is("5: not SHUT", x.has(0, 7), 0);
        Due.row("5: of the other SHOP", what -> x.has(1, 5 + what), 1, 0, 0, 1, 1, 0);
    }

    private static void hasAsksForShopAndWhat() {
        PrisonShops x = withShops(1);
        Due.is("5: what -1", x.has(0, -1), BAD);
        Due.is("5: what 11", x.has(0, 11), BAD);
        Due.is("5: the least what", x.has(0, LEAST), BAD);
        Due.is("5: the most what", x.has(0, MOST), BAD);
        Due.is("5: no SHOP 1", x.has(1, 0), BAD);
        Due.is("5: no SHOP -1", x.has(-1, 0), BAD);
        Due.is("5: NONE is no SHOP", x.has(NONE, 5), BAD);
        Due.is("5: nor are its TOOLS", x.has(NONE, 8), BAD);
    }

    private static void handsAreTenAtMost() {
        PrisonShops x = new PrisonShops();
        for (int i = 0; i < 10; i++) {
            Due.is("6: HANDS are numbered from 0", x.hand(0, 0, 1), i);
        }
        Due.is("6: FULL with 10 of them", x.hand(0, 0, 1), FULL);
        Due.is("6: BAD stands ahead of FULL", x.hand(0, 0, 0), BAD);
        x.run(1);
        Due.is("6: all went", x.count(2), 0);
        x.run(1);
        Due.is("6: all are FREE", x.count(2), 10);
        Due.is("6: FULL with those who are FREE, too", x.hand(0, 0, 9), FULL);
        Due.is("6: no HAND 10", x.is(10, 0), BAD);
    }

    private static void risksOfHandsAre0To3() {
        PrisonShops x = new PrisonShops();
        Due.is("6: a RISK of -1", x.hand(-1, 0, 9), BAD);
        Due.is("6: a RISK of 4", x.hand(4, 0, 9), BAD);
        Due.is("6: the least RISK", x.hand(LEAST, 0, 9), BAD);
        Due.is("6: the most RISK", x.hand(MOST, 0, 9), BAD);
        Due.is("6: a RISK of 0", x.hand(0, 0, 9), 0);
        Due.is("6: a RISK of 3", x.hand(3, 0, 9), 1);
        Due.is("6: RISK 0", x.is(0, 0), 0);
        Due.is("6: RISK 3", x.is(1, 0), 3);
    }

    private static void skillsAre0To3() {
        PrisonShops x = new PrisonShops();
        Due.is("6: a SKILL of -1", x.hand(0, -1, 9), BAD);
        Due.is("6: a SKILL of 4", x.hand(0, 4, 9), BAD);
        Due.is("6: the least SKILL", x.hand(0, LEAST, 9), BAD);
        Due.is("6: the most SKILL", x.hand(0, MOST, 9), BAD);
        Due.is("6: a SKILL of 0", x.hand(0, 0, 9), 0);
        Due.is("6: a SKILL of 3", x.hand(0, 3, 9), 1);
        Due.is("6: SKILL 0", x.is(0, 1), 0);
        Due.is("6: SKILL 3", x.is(1, 1), 3);
    }

    private static void termsAre1To999() {
        PrisonShops x = new PrisonShops();
        Due.is("6: a TERM of 0", x.hand(0, 0, 0), BAD);
        Due.is("6: a TERM of 1000", x.hand(0, 0, 1000), BAD);
        Due.is("6: a TERM of -1", x.hand(0, 0, -1), BAD);
        Due.is("6: the least TERM", x.hand(0, 0, LEAST), BAD);
        Due.is("6: the most TERM", x.hand(0, 0, MOST), BAD);
        Due.is("6: a TERM of 1", x.hand(0, 0, 1), 0);
        Due.is("6: a TERM of 999", x.hand(0, 0, 999), 1);
        Due.is("6: TERM 1", x.is(0, 2), 1);
        Due.is("6: TERM 999", x.is(1, 2), 999);
        x.run(9);
        Due.is("6: a TERM that is over already", x.hand(0, 0, 3), 2);
    }

    private static void handsBeginWithNothing() {
        PrisonShops x = withShops(1);
        x.hand(2, 1, 40);
        Due.row("6: a new HAND", what -> x.is(0, what), 2, 1, 40, 0, 0, 0, 0, 0, NONE, NONE, 0, 0);
        hands(x, 1);
        Due.is("6: BARRED from nobody", x.bar(0, 1, 0), 0);
    }

    private static void isAsksForHandAndWhat() {
        PrisonShops x = new PrisonShops();
        hands(x, 1);
        Due.is("7: what -1", x.is(0, -1), BAD);
        Due.is("7: what 12", x.is(0, 12), BAD);
        Due.is("7: the least what", x.is(0, LEAST), BAD);
        Due.is("7: the most what", x.is(0, MOST), BAD);
        Due.is("7: no HAND 1", x.is(1, 0), BAD);
        Due.is("7: no HAND -1", x.is(-1, 0), BAD);
        Due.is("7: NONE is no HAND", x.is(NONE, 0), BAD);
    }

    private static void beRisk() {
        PrisonShops x = new PrisonShops();
        x.hand(1, 2, 9);
        Due.is("8: RISK -1", x.be(0, 0, -1), BAD);
        Due.is("8: RISK 4", x.be(0, 0, 4), BAD);
        Due.is("8: RISK NONE", x.be(0, 0, NONE), BAD);
        Due.is("8: what it was", x.be(0, 0, 3), 1);
        Due.is("8: RISK 3", x.be(0, 0, 0), 3);
        Due.is("8: RISK 0", x.is(0, 0), 0);
    }

    private static void beSkill() {
        PrisonShops x = withShops(1);
        x.hand(1, 2, 99);
        Due.is("8: SKILL -1", x.be(0, 1, -1), BAD);
        Due.is("8: SKILL 4", x.be(0, 1, 4), BAD);
        Due.is("8: what it was", x.be(0, 1, 3), 2);
        Due.is("8: SKILL 3", x.be(0, 1, 0), 3);
        Due.is("8: SKILL 0", x.is(0, 1), 0);
        x.put(0, 0);
        x.run(4);
        x.be(0, 1, 2);
        Due.is("8: LEARNT stays", x.is(0, 7), 4);
    }

    private static void beOwes() {
        PrisonShops x = new PrisonShops();
        hands(x, 1);
        Due.is("8: OWES -1", x.be(0, 3, -1), BAD);
        Due.is("8: OWES 10000", x.be(0, 3, 10000), BAD);
        Due.is("8: what it was", x.be(0, 3, 9999), 0);
        Due.is("8: OWES 9999", x.be(0, 3, 0), 9999);
        Due.is("8: OWES 0", x.is(0, 3), 0);
        Due.is("8: the most", x.be(0, 3, MOST), BAD);
        Due.is("8: the least", x.be(0, 3, LEAST), BAD);
    }

    private static void beCourt() {
        PrisonShops x = new PrisonShops();
        hands(x, 1);
        x.run(3);
        Due.is("8: COURT on the DAY ahead of this one", x.be(0, 9, 2), BAD);
        Due.is("8: COURT on DAY 0", x.be(0, 9, 0), BAD);
        Due.is("8: COURT on DAY -1", x.be(0, 9, -1), BAD);
        Due.is("8: there is no DAY 1000", x.be(0, 9, 1000), BAD);
        Due.is("8: the most", x.be(0, 9, MOST), BAD);
        Due.is("8: BAD is not NONE", x.be(0, 9, BAD), BAD);
        Due.is("8: NONE at first", x.be(0, 9, 3), NONE);
        Due.is("8: this DAY", x.be(0, 9, 999), 3);
        Due.is("8: the last DAY", x.be(0, 9, NONE), 999);
        Due.is("8: none again", x.is(0, 9), NONE);
        x.be(0, 9, 4);
        x.run(3);
        Due.is("8: a COURT day that is over stays", x.is(0, 9), 4);
    }

    private static void beNothingElse() {
        PrisonShops x = new PrisonShops();
        hands(x, 1);
        for (int what : new int[] {LEAST, NONE, -1, 2, 4, 5, 6, 7, 8, 10, 11, 12, 13, MOST}) {
            Due.is("8: what " + what, x.be(0, what, 1), BAD);
            Due.is("8: what " + what + " of NONE", x.be(0, what, NONE), BAD);
        }
        Due.is("8: no HAND 1", x.be(1, 0, 1), BAD);
        Due.is("8: no HAND -1", x.be(-1, 0, 1), BAD);
        Due.row("8: it is as it was", what -> x.is(0, what), 0, 0, 999, 0, 0, 0, 0, 0, NONE, NONE, 0, 0);
    }

    private static void barIsOnOrOff() {
        PrisonShops x = new PrisonShops();
        hands(x, 2);
        Due.is("9: on 2", x.bar(0, 1, 2), BAD);
        Due.is("9: on -1", x.bar(0, 1, -1), BAD);
        Due.is("9: off, and it was not", x.bar(0, 1, 0), 0);
        Due.is("9: on, and it was not", x.bar(0, 1, 1), 0);
        Due.is("9: on, and it was", x.bar(0, 1, 1), 1);
        Due.is("9: the other way round", x.bar(1, 0, 0), 1);
        Due.is("9: off now, both ways", x.bar(0, 1, 0), 0);
    }

    private static void barOfOneHand() {
        PrisonShops x = new PrisonShops();
        hands(x, 10);
        for (int i = 0; i < 10; i++) {
            Due.is("9: BAD: also if they are one", x.bar(i, i, 1), BAD);
            Due.is("9: one, off", x.bar(i, i, 0), BAD);
        }
    }

    private static void barOfHandsThatAreNot() {
        PrisonShops x = new PrisonShops();
        Due.is("9: nobody", x.bar(0, 1, 1), BAD);
        hands(x, 2);
        Due.is("9: no HAND 2", x.bar(0, 2, 1), BAD);
        Due.is("9: no HAND 2, first", x.bar(2, 0, 1), BAD);
        Due.is("9: no HAND -1", x.bar(-1, 0, 1), BAD);
        Due.is("9: no HAND -1, second", x.bar(0, -1, 1), BAD);
        Due.is("9: 32 is not 0", x.bar(32, 1, 1), BAD);
        Due.is("9: nor 33", x.bar(0, 33, 1), BAD);
        Due.is("9: as they were", x.bar(0, 1, 0), 0);
    }

    private static void barIsOfTheTwo() {
        PrisonShops x = new PrisonShops();
        hands(x, 10);
        x.bar(0, 9, 1);
        x.bar(9, 8, 1);
        for (int i = 0; i < 10; i++) {
            for (int j = 0; j < 10; j++) {
                int due = i == j ? BAD : i + j == 9 && i * j == 0 || i + j == 17 ? 1 : 0;
                Due.is("9: " + i + " and " + j, x.bar(i, j, due == 1 ? 1 : 0), due);
            }
        }
    }

    private static void mayByRisk() {
        for (int risk = 0; risk < 4; risk++) {
            for (int shop = 0; shop < 4; shop++) {
                PrisonShops x = new PrisonShops();
                x.shop(1, shop, 0);
                x.hand(risk, 0, 9);
                Due.is("10: RISK " + risk + ", the SHOP's " + shop, x.may(0, 0), risk <= shop ? 1 : 0);
            }
        }
    }

    private static void mayBySkill() {
        for (int skill = 0; skill < 4; skill++) {
            for (int level = 0; level < 4; level++) {
                PrisonShops x = new PrisonShops();
                x.shop(1, 3, level);
                x.hand(3, skill, 9);
                Due.is("10: SKILL " + skill + ", LEVEL " + level, x.may(0, 0), skill >= level ? 1 : 0);
            }
        }
    }

    private static void mayByCourt() {
        PrisonShops x = withShops(1);
        hands(x, 1);
        x.be(0, 9, 2);
        int[] due = {1, 1, 0, 1};
        for (int day = 0; day < due.length; day++) {
            Due.is("10: COURT on DAY 2, this is " + day, x.may(0, 0), due[day]);
            x.run(1);
        }
    }

    private static void mayByLock() {
        PrisonShops x = withShops(1, 1);
        hands(x, 1);
        x.lock(0, 1);
        Due.is("10: LOCKED for a DAY", x.may(0, 0), 0);
        Due.is("10: another SHOP is not", x.may(0, 1), 1);
        x.run(1);
        Due.is("10: open", x.may(0, 0), 1);
    }

    private static void mayOfTheFree() {
        PrisonShops x = withShops(1);
        x.hand(0, 0, 1);
        x.run(1);
        Due.is("10: not FREE yet", x.may(0, 0), 1);
        x.run(1);
        Due.is("10: FREE", x.may(0, 0), 0);
    }

    private static void mayOfWhatIsNot() {
        PrisonShops x = withShops(1);
        hands(x, 1);
        Due.is("10: no HAND 1", x.may(1, 0), BAD);
        Due.is("10: no HAND -1", x.may(-1, 0), BAD);
        Due.is("10: no SHOP 1", x.may(0, 1), BAD);
        Due.is("10: no SHOP -1", x.may(0, -1), BAD);
        Due.is("10: NONE is no SHOP", x.may(0, NONE), BAD);
    }

    private static void putAsksWhetherItMay() {
        PrisonShops x = new PrisonShops();
        x.shop(5, 1, 1);
        x.hand(2, 1, 99);
        x.hand(1, 0, 99);
        x.hand(1, 1, 99);
        x.hand(1, 1, 1);
        Due.is("11: RISK above", x.put(0, 0), NO);
        Due.is("11: SKILL below", x.put(1, 0), NO);
        x.be(2, 9, 0);
        Due.is("11: COURT is this DAY", x.put(2, 0), NO);
        x.be(2, 9, 1);
        Due.is("11: COURT is the next", x.put(2, 0), NONE);
        x.put(2, NONE);
        x.lock(0, 1);
        Due.is("11: LOCKED", x.put(2, 0), NO);
        x.run(2);
        Due.is("11: FREE", x.put(3, 0), NO);
        Due.is("11: nobody came", x.has(0, 5), 0);
    }

    private static void putCountsPlacesOfOthers() {
        PrisonShops x = withShops(2);
        hands(x, 3);
        x.put(0, 0);
        Due.is("11: one other", x.put(1, 0), NONE);
        Due.is("11: as many as PLACES", x.put(2, 0), NO);
        Due.is("11: of others: its own place is none", x.put(0, 0), 0);
        x.put(1, NONE);
        Due.is("11: one left", x.put(2, 0), NONE);
    }

    private static void putAsksWhoIsBarred() {
        PrisonShops x = withShops(5, 5);
        hands(x, 3);
        x.bar(0, 1, 1);
        x.put(0, 0);
        Due.is("11: one from whom it is BARRED", x.put(1, 0), NO);
        Due.is("11: not there", x.put(1, 1), NONE);
        Due.is("11: the other way round", x.put(0, 1), NO);
        Due.is("11: who is not BARRED", x.put(2, 0), NONE);
        x.put(1, NONE);
        x.put(1, 1);
        x.bar(0, 2, 1);
        Due.is("11: BARRED where they are already", x.put(2, 0), NO);
        x.bar(0, 1, 0);
        Due.is("11: not BARRED any more", x.put(1, 0), 1);
    }

    private static void putToNoneIsNeverFull() {
        PrisonShops x = withShops(1);
        hands(x, 10);
        x.put(0, 0);
        x.lock(0, 9);
        x.be(0, 9, 0);
        Due.is("11: NONE: to none", x.put(0, NONE), 0);
        Due.is("11: where it was: NONE", x.put(0, NONE), NONE);
        Due.is("11: in no SHOP", x.is(0, 8), NONE);
    }

    private static void putBadAheadOfNo() {
        PrisonShops x = withShops(1);
        x.hand(0, 0, 1);
        x.run(2);
        Due.is("11: no SHOP 1, of one who is FREE", x.put(0, 1), BAD);
        Due.is("11: no SHOP -1", x.put(0, -1), BAD);
        Due.is("11: no SHOP", x.put(0, BAD), BAD);
        Due.is("11: no HAND 1", x.put(1, 0), BAD);
        Due.is("11: no HAND -1", x.put(-1, NONE), BAD);
        Due.is("11: NO: FREE", x.put(0, 0), NO);
    }

    private static void putHangsWhatIsOut() {
        PrisonShops x = withShops(2, 2);
        hands(x, 2);
        x.put(0, 0);
        x.put(1, 0);
        for (int i = 0; i < 3; i++) {
            x.thing(1, 0, 0, 0);
        }
        x.out(0, 0);
        x.out(1, 0);
        x.out(2, 1);
        x.put(0, 0);
        Due.is("11: the SHOP where it was: still OUT", x.has(0, 9), 3);
        x.lock(1, 1);
        x.put(0, 1);
        Due.is("11: NO: still OUT", x.has(0, 9), 3);
        x.lock(1, 0);
        x.put(0, 1);
        Due.is("11: another one: all that it had hangs", x.told(0, 4) + x.told(1, 4), 0);
        Due.is("11: what others have does not", x.told(2, 4), 1);
        x.put(1, NONE);
        Due.is("11: none: it hangs", x.told(2, 4), 0);
        Due.is("11: OUT to nobody", x.told(2, 5), NONE);
    }

    private static void fillingIsTheMost() {
        PrisonShops x = new PrisonShops();
        x.shop(1, 3, 0);
        x.shop(1, 1, 0);
        x.shop(1, 3, 2);
        x.hand(0, 2, 99);
        x.hand(1, 0, 99);
        x.hand(3, 0, 99);
        filling("12: the most HANDS with one", x, 3, 0, 2, 1, 0);
    }

    private static void fillingIsTheMostAheadOfTheFairest() {
        PrisonShops x = withShops(1, 2);
        hands(x, 3);
        worked(x, 0, 0, 5);
        worked(x, 1, 0, 7);
        filling("12: three rather than a lesser sum", x, 3, 12, 0, 1, 1);
        x.bar(0, 1, 1);
        x.bar(0, 2, 1);
        x.bar(1, 2, 1);
        filling("12: two of them at least", x, 2, 5, 0, NONE, 1);
    }

    private static void fillingIsTheFairest() {
        PrisonShops x = withShops(2);
        hands(x, 4);
        worked(x, 0, 0, 4);
        worked(x, 1, 0, 1);
        worked(x, 2, 0, 3);
        worked(x, 3, 0, 2);
        filling("12: the least sum of TURNS of those", x, 2, 3, NONE, 0, NONE, 0);
        x.bar(1, 3, 1);
        filling("12: the next least", x, 2, 4, NONE, 0, 0, NONE);
    }

    private static void fillingOfSeveralHasTheLeastShopOfHand0() {
        PrisonShops x = withShops(1, 1, 1);
        hands(x, 3);
        filling("12: HAND 0 the least SHOP, then HAND 1", x, 3, 0, 0, 1, 2);
        x.lock(0, 1);
        filling("12: of those where it MAY", x, 2, 0, 1, 2, NONE);
        PrisonShops y = withShops(2, 2);
        hands(y, 3);
        filling("12: both in SHOP 0, then the next", y, 3, 0, 0, 0, 1);
        y.bar(0, 1, 1);
        filling("12: BARRED from HAND 0", y, 3, 0, 0, 1, 0);
        y.be(0, 9, 0);
        filling("12: HAND 0 in none, so HAND 1", y, 2, 0, NONE, 0, 0);
    }

    private static void fillingHasNoneBehindAll() {
        PrisonShops x = withShops(1, 1);
        hands(x, 3);
        filling("12: none behind all", x, 2, 0, 0, 1, NONE);
        worked(x, 0, 0, 1);
        worked(x, 1, 0, 1);
        worked(x, 2, 0, 1);
        filling("12: with as many TURNS", x, 2, 2, 0, 1, NONE);
        worked(x, 0, 0, 1);
        filling("12: but the fairest first", x, 2, 2, NONE, 0, 1);
    }

    private static void fillingKeepsToPlaces() {
        for (int places = 1; places <= 5; places++) {
            PrisonShops x = withShops(places);
            hands(x, 6);
            Due.is("12: no more than PLACES " + places, x.filling(0), places);
            Due.is("12: the last one in", x.filling(2 + places - 1), 0);
            Due.is("12: the first one out", x.filling(2 + places), NONE);
        }
    }

    private static void fillingKeepsTheBarredApart() {
        PrisonShops x = withShops(5);
        hands(x, 4);
        x.bar(0, 1, 1);
        filling("12: nor two that are BARRED", x, 3, 0, 0, NONE, 0, 0);
        x.bar(1, 0, 0);
        filling("12: they are not any more", x, 4, 0, 0, 0, 0, 0);
        x.bar(0, 1, 1);
        x.bar(0, 2, 1);
        filling("12: one gives way to two", x, 3, 0, NONE, 0, 0, 0);
        PrisonShops y = withShops(5, 5);
        hands(y, 4);
        y.bar(3, 0, 1);
        y.bar(3, 2, 1);
        filling("12: apart in two SHOPS", y, 4, 0, 0, 0, 0, 1);
        y.bar(0, 2, 1);
        filling("12: three BARRED in two SHOPS", y, 3, 0, 0, 0, 1, NONE);
    }

    private static void fillingTakesWhoMayOnly() {
        PrisonShops x = new PrisonShops();
        x.shop(5, 1, 1);
        x.hand(1, 1, 99);
        x.hand(2, 1, 99);
        x.hand(1, 0, 99);
        x.hand(1, 1, 99);
        x.hand(1, 1, 1);
        x.be(3, 9, 2);
        x.run(2);
        filling("12: in which it MAY work", x, 1, 0, 0, NONE, NONE, NONE, NONE);
        x.run(1);
        filling("12: COURT is over", x, 2, 0, 0, NONE, NONE, 0, NONE);
        x.lock(0, 1);
        filling("12: LOCKED", x, 0, 0, NONE, NONE, NONE, NONE, NONE);
    }

    private static void fillingOfNobody() {
        PrisonShops x = new PrisonShops();
        filling("12: nobody, no SHOP", x, 0, 0);
        hands(x, 2);
        filling("12: no SHOP", x, 0, 0, NONE, NONE);
        PrisonShops y = withShops(5, 5, 5);
        filling("12: nobody", y, 0, 0);
    }

    private static void fillingOfAll() {
        PrisonShops x = withShops(5, 5, 5);
        hands(x, 10);
        filling("12: ten HANDS", x, 10, 0, 0, 0, 0, 0, 0, 1, 1, 1, 1, 1);
        Due.is("12: behind the last one", x.filling(12), BAD);
    }

    private static void fillingAsksForWhat() {
        PrisonShops x = withShops(1);
        Due.is("12: there is no HAND 0", x.filling(2), BAD);
        hands(x, 1);
        Due.is("12: HAND 0", x.filling(2), 0);
        Due.is("12: there is no HAND 1", x.filling(3), BAD);
        Due.is("12: what -1", x.filling(-1), BAD);
        Due.is("12: the least what", x.filling(LEAST), BAD);
        Due.is("12: the most what", x.filling(MOST), BAD);
    }

    private static void fillCountsWhoChanged() {
        PrisonShops x = withShops(1, 1);
        hands(x, 3);
        x.put(0, 1);
        Due.is("13: two change, one stays in none", x.fill(), 2);
        Due.is("13: HAND 0", x.is(0, 8), 0);
        Due.is("13: HAND 1", x.is(1, 8), 1);
        Due.is("13: HAND 2", x.is(2, 8), NONE);
        Due.is("13: nobody changes", x.fill(), 0);
        x.run(1);
        Due.is("13: who did not work yet comes", x.fill(), 2);
        Due.is("13: HAND 0 has the least SHOP", x.is(0, 8), 0);
        Due.is("13: HAND 1 gives way", x.is(1, 8), NONE);
        Due.is("13: HAND 2 comes", x.is(2, 8), 1);
        x.lock(0, 1);
        x.lock(1, 1);
        Due.is("13: to none", x.fill(), 2);
        Due.is("13: nobody has one", x.count(3), 0);
        Due.is("13: of an empty one", new PrisonShops().fill(), 0);
    }

    private static void fillLeavesTheFree() {
        PrisonShops x = withShops(5);
        x.hand(0, 0, 1);
        hands(x, 1);
        x.run(2);
        Due.is("13: all HANDS that are not FREE", x.fill(), 1);
        Due.is("13: who is FREE is in none", x.is(0, 8), NONE);
    }

    private static void fillHangsWhatIsOut() {
        PrisonShops x = withShops(1, 1);
        hands(x, 2);
        x.put(0, 1);
        x.put(1, 0);
        x.thing(1, 1, 0, 0);
        x.thing(1, 0, 0, 0);
        x.out(0, 0);
        x.out(1, 1);
        Due.is("13: both change", x.fill(), 2);
        Due.is("13: another SHOP: it hangs again", x.count(12), 0);
        x.out(1, 0);
        x.lock(0, 1);
        x.be(0, 9, 0);
        x.fill();
        Due.is("13: none: it hangs again", x.count(12), 0);
        Due.is("13: none is LOST", x.count(13), 0);
    }

    private static void fillKeepsWhatIsOutToThoseWhoStay() {
        PrisonShops x = withShops(1, 1);
        hands(x, 2);
        x.fill();
        x.thing(1, 0, 0, 0);
        x.thing(1, 1, 0, 0);
        x.out(0, 0);
        x.out(1, 1);
        x.be(1, 9, 0);
        x.fill();
        Due.is("13: who stays keeps it", x.told(0, 5), 0);
        Due.is("13: who goes does not", x.told(1, 5), NONE);
    }

    private static void neverAsksTurnsShopAndFree() {
        PrisonShops x = withShops(5);
        hands(x, 2);
        x.hand(0, 0, 1);
        x.hand(0, 0, 99);
        Due.is("14: all", x.never(), 15);
        x.put(1, 0);
        Due.is("14: not who is in a SHOP", x.never(), 13);
        x.lock(0, 1);
        x.run(1);
        x.put(1, NONE);
        Due.is("14: a DAY in a LOCKED SHOP is no TURN", x.never(), 15);
        x.put(1, 0);
        x.run(1);
        x.put(1, NONE);
        Due.is("14: nor who had a TURN, nor who is FREE", x.never(), 9);
    }

    private static void neverOfTen() {
        PrisonShops x = new PrisonShops();
        Due.is("14: nobody", x.never(), 0);
        hands(x, 10);
        Due.is("14: ten", x.never(), 1023);
    }
}
