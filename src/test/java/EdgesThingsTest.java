/** Promises 15 to 23 and section 2 of the Terms: one test for each sentence that names an edge, its words in the test's labels. */
public final class EdgesThingsTest {
    private static final int BAD = PrisonShops.BAD, NO = PrisonShops.NO, FULL = PrisonShops.FULL, NONE = PrisonShops.NONE;
    private static final int KIND = PrisonShops.KIND;
    private static final int LEAST = Integer.MIN_VALUE, MOST = Integer.MAX_VALUE;
    private static final int THING = 0, TOOL = 1, BLADE = 2, NEEDLE = 3, PAPER = 4, ORDER = 5;

    public static void main(String[] args) {
        thingsAreThirtyAtMost();
        kindsAre0To5();
        thingsAreOfAShop();
        aOfThingsAndToolsIs0();
        aOfBladesAndNeedlesIs0To3();
        aOfPapersIs0To9999();
        aOfOrdersIs1To9999();
        datesAreOfOrdersOnly();
        newThings();
        toldAsksForThingAndWhat();
        asOfAKindOrOneUnderIt();
        asAsksForThingAndKind();
        outCountsWhatTheHandHas();
        outOfWhatIsNoTool();
        outOfWhatDoesNotHang();
        outToAHandOfItsShop();
        outWhereTheShopIsShut();
        outWhereTheShopIsLocked();
        outByRisk();
        outBadAheadOfKindAheadOfNo();
        hangWhereItWas();
        hangRefused();
        bellOfNoTools();
        bellBitsOfToolsThatThereAreNot();
        bellBitsByTheirOrder();
        bellOfWhatHangs();
        bellOfWhatIsOut();
        bellOfWhatIsLost();
        bellShutsTillTheyAgree();
        bellLosesWhatIsMissedTwice();
        bellsOfAnotherShopAreNone();
        bellAheadMissedNothing();
        bellLostOneDoesNotAgreeStill();
        bellOfAFoundOne();
        whoOfTen();
        whoAsksForShop();
        lateOfAnOpenOrder();
        lateOfADoneOrder();
        lateRefused();
        foretoldOfNothingOpen();
        foretoldFromThisDayOn();
        foretoldByDateThenNumber();
        foretoldOfThirtyOrders();
        foretoldOfTheThousandthDay();
        foretoldSkillAndLearntGoOn();
        foretoldSkillIs3AtMost();
        foretoldLooksNotAtCourtTermsLocks();
        foretoldOfHandsAsTheyAreNow();
        foretoldAsksForShop();
        Due.end();
    }

    /** Shop 0 with HANDS 0 to n - 1 in it, of RISK 0; shop 1 is empty. */
    private static PrisonShops begun(int n) {
        PrisonShops x = new PrisonShops();
        x.shop(5, 3, 0);
        x.shop(5, 3, 0);
        for (int i = 0; i < n; i++) {
            x.hand(0, 0, 999);
            x.put(i, 0);
        }
        return x;
    }

    private static void things(PrisonShops x, int... kinds) {
        for (int kind : kinds) {
            x.thing(kind, 0, kind == ORDER ? 9999 : 0, 0);
        }
    }

    private static void thingsAreThirtyAtMost() {
        PrisonShops x = begun(0);
        for (int i = 0; i < 30; i++) {
            Due.is("15: THINGS are numbered from 0", x.thing(i % 5, 0, 0, 0), i);
        }
        Due.is("15: FULL with 30 of them", x.thing(TOOL, 0, 0, 0), FULL);
        Due.is("15: FULL of ORDERS, too", x.thing(ORDER, 1, 1, 0), FULL);
        Due.is("15: BAD stands ahead of FULL", x.thing(ORDER, 0, 0, 0), BAD);
        Due.is("15: no THING 30", x.told(30, 0), BAD);
        Due.is("15: THING 29", x.told(29, 0), 4);
        Due.is("15: 30 of them", x.count(4), 30);
    }

    private static void kindsAre0To5() {
        PrisonShops x = begun(0);
        for (int kind : new int[] {LEAST, KIND, -1, 6, MOST}) {
            Due.is("15: no KIND " + kind, x.thing(kind, 0, 0, 0), BAD);
            Due.is("15: no KIND " + kind + ", a 1", x.thing(kind, 0, 1, 0), BAD);
        }
        for (int kind = 0; kind <= 5; kind++) {
            Due.is("15: KIND " + kind, x.thing(kind, 0, kind == ORDER ? 1 : 0, 0), kind);
            Due.is("15: is of it", x.told(kind, 0), kind);
        }
    }

    private static void thingsAreOfAShop() {
        PrisonShops x = new PrisonShops();
        Due.is("15: there is no SHOP 0", x.thing(THING, 0, 0, 0), BAD);
        x.shop(1, 0, 0);
        Due.is("15: there is no SHOP 1", x.thing(THING, 1, 0, 0), BAD);
        Due.is("15: there is no SHOP -1", x.thing(THING, -1, 0, 0), BAD);
        Due.is("15: NONE is no SHOP", x.thing(THING, NONE, 0, 0), BAD);
        Due.is("15: SHOP 0", x.thing(THING, 0, 0, 0), 0);
    }

    private static void aIs(int kind, int least, int most) {
        PrisonShops x = begun(0);
        Due.is("15: a of KIND " + kind + " is not " + (least - 1), x.thing(kind, 0, least - 1, 0), BAD);
        Due.is("15: a of KIND " + kind + " is not " + (most + 1), x.thing(kind, 0, most + 1, 0), BAD);
        Due.is("15: a of KIND " + kind + " is not the least", x.thing(kind, 0, LEAST, 0), BAD);
        Due.is("15: a of KIND " + kind + " is not the most", x.thing(kind, 0, MOST, 0), BAD);
        Due.is("15: a of KIND " + kind + " can be " + least, x.thing(kind, 0, least, 0), 0);
        Due.is("15: a of KIND " + kind + " can be " + most, x.thing(kind, 0, most, 0), 1);
        Due.is("15: it is", x.told(0, 2), least);
        Due.is("15: it is, too", x.told(1, 2), most);
    }

    private static void aOfThingsAndToolsIs0() {
        aIs(THING, 0, 0);
        aIs(TOOL, 0, 0);
    }

    private static void aOfBladesAndNeedlesIs0To3() {
        aIs(BLADE, 0, 3);
        aIs(NEEDLE, 0, 3);
    }

    private static void aOfPapersIs0To9999() {
        aIs(PAPER, 0, 9999);
    }

    private static void aOfOrdersIs1To9999() {
        aIs(ORDER, 1, 9999);
    }

    private static void datesAreOfOrdersOnly() {
        PrisonShops x = begun(0);
        for (int kind = 0; kind < 5; kind++) {
            Due.is("15: of others 0, not 1", x.thing(kind, 0, 0, 1), BAD);
            Due.is("15: of others 0, not -1", x.thing(kind, 0, 0, -1), BAD);
        }
        Due.is("15: DATE -1", x.thing(ORDER, 0, 1, -1), BAD);
        Due.is("15: DATE 1000", x.thing(ORDER, 0, 1, 1000), BAD);
        Due.is("15: the most", x.thing(ORDER, 0, 1, MOST), BAD);
        Due.is("15: DATE 0", x.thing(ORDER, 0, 1, 0), 0);
        Due.is("15: DATE 999", x.thing(ORDER, 0, 1, 999), 1);
        Due.is("15: it is 0", x.told(0, 3), 0);
        Due.is("15: it is 999", x.told(1, 3), 999);
        x.run(5);
        Due.is("15: a DATE that is over", x.thing(ORDER, 0, 1, 2), 2);
    }

    private static void newThings() {
        PrisonShops x = begun(0);
        x.thing(ORDER, 1, 7, 3);
        x.thing(NEEDLE, 0, 2, 0);
        Due.row("16: an ORDER is OPEN", what -> x.told(0, what), ORDER, 1, 7, 3, 0, NONE, NONE);
        Due.row("16: a NEEDLE hangs at first", what -> x.told(1, what), NEEDLE, 0, 2, 0, 0, NONE, NONE);
    }

    private static void toldAsksForThingAndWhat() {
        PrisonShops x = begun(0);
        Due.is("16: there is no THING 0", x.told(0, 0), BAD);
        things(x, TOOL);
        Due.is("16: what -1", x.told(0, -1), BAD);
        Due.is("16: what 7", x.told(0, 7), BAD);
        Due.is("16: the least what", x.told(0, LEAST), BAD);
        Due.is("16: the most what", x.told(0, MOST), BAD);
        Due.is("16: no THING 1", x.told(1, 0), BAD);
        Due.is("16: no THING -1", x.told(-1, 0), BAD);
    }

    private static void asOfAKindOrOneUnderIt() {
        PrisonShops x = begun(0);
        x.thing(THING, 0, 0, 0);
        x.thing(TOOL, 0, 0, 0);
        x.thing(BLADE, 0, 3, 0);
        x.thing(NEEDLE, 0, 2, 0);
        x.thing(PAPER, 0, 9999, 0);
        x.thing(ORDER, 0, 8888, 0);
        Due.row("17: a THING", kind -> x.as(0, kind), 0, KIND, KIND, KIND, KIND, KIND);
        Due.row("17: a TOOL", kind -> x.as(1, kind), 0, 0, KIND, KIND, KIND, KIND);
        Due.row("17: a BLADE", kind -> x.as(2, kind), 3, 3, 3, KIND, KIND, KIND);
        Due.row("17: a NEEDLE", kind -> x.as(3, kind), 2, 2, 2, 2, KIND, KIND);
        Due.row("17: a PAPER", kind -> x.as(4, kind), 9999, KIND, KIND, KIND, 9999, KIND);
        Due.row("17: an ORDER", kind -> x.as(5, kind), 8888, KIND, KIND, KIND, 8888, 8888);
    }

    private static void asAsksForThingAndKind() {
        PrisonShops x = begun(0);
        Due.is("17: there is no THING 0", x.as(0, 0), BAD);
        things(x, THING);
        Due.is("17: no KIND -1", x.as(0, -1), BAD);
        Due.is("17: no KIND 6", x.as(0, 6), BAD);
        Due.is("17: the least KIND", x.as(0, LEAST), BAD);
        Due.is("17: the most KIND", x.as(0, MOST), BAD);
        Due.is("17: no THING 1", x.as(1, 0), BAD);
        Due.is("17: no THING -1, not of the KIND either", x.as(-1, 5), BAD);
    }

    private static void outCountsWhatTheHandHas() {
        PrisonShops x = begun(2);
        for (int i = 0; i < 30; i++) {
            x.thing(1 + i % 3, 0, 0, 0);
        }
        Due.is("18: the first of another HAND", x.out(29, 1), 1);
        for (int i = 0; i < 29; i++) {
            Due.is("18: how many the HAND has", x.out(i, 0), i + 1);
        }
        x.hang(4);
        Due.is("18: one less, and one more", x.out(4, 0), 29);
        Due.is("18: all are OUT", x.count(12), 30);
    }

    private static void outOfWhatIsNoTool() {
        PrisonShops x = begun(1);
        things(x, THING, PAPER, ORDER);
        for (int thing = 0; thing < 3; thing++) {
            Due.is("18: no TOOL", x.out(thing, 0), KIND);
        }
        Due.is("18: none is OUT", x.count(12), 0);
    }

    private static void outOfWhatDoesNotHang() {
        PrisonShops x = begun(2);
        things(x, TOOL, TOOL);
        x.out(0, 0);
        Due.is("18: OUT to it already", x.out(0, 0), NO);
        Due.is("18: OUT to another", x.out(0, 1), NO);
        x.bell(0, 0);
        x.bell(0, 0);
        x.bell(0, 0);
        Due.is("18: the doors are open", x.has(0, 7), 0);
        Due.is("18: LOST", x.out(1, 0), NO);
        x.hang(1);
        Due.is("18: it is found", x.out(1, 1), 1);
    }

    private static void outToAHandOfItsShop() {
        PrisonShops x = begun(1);
        x.hand(0, 0, 999);
        x.hand(0, 0, 999);
        x.put(1, 1);
        things(x, TOOL);
        x.thing(TOOL, 1, 0, 0);
        Due.is("18: the HAND is in another SHOP", x.out(0, 1), NO);
        Due.is("18: the HAND is in none", x.out(0, 2), NO);
        Due.is("18: the TOOL is of another SHOP", x.out(1, 0), NO);
        Due.is("18: it is in its SHOP", x.out(1, 1), 1);
        x.be(0, 9, 0);
        Due.is("18: COURT is not asked", x.out(0, 0), 1);
    }

    private static void outWhereTheShopIsShut() {
        PrisonShops x = begun(1);
        things(x, TOOL, TOOL);
        x.bell(0, 1);
        Due.is("18: SHUT", x.out(0, 0), NO);
        x.bell(0, 3);
        Due.is("18: open", x.out(0, 0), 1);
    }

    private static void outWhereTheShopIsLocked() {
        PrisonShops x = begun(1);
        things(x, TOOL, TOOL);
        x.lock(0, 1);
        Due.is("18: LOCKED", x.out(0, 0), NO);
        x.lock(0, 0);
        x.lock(1, 1);
        Due.is("18: another one is LOCKED", x.out(0, 0), 1);
        x.lock(0, 1);
        x.run(1);
        Due.is("18: open", x.out(1, 0), 2);
    }

    private static void outByRisk() {
        for (int risk = 0; risk < 4; risk++) {
            for (int a = 0; a < 4; a++) {
                PrisonShops x = begun(0);
                x.hand(risk, 0, 999);
                x.put(0, 0);
                x.thing(BLADE, 0, a, 0);
                x.thing(NEEDLE, 0, a, 0);
                x.thing(TOOL, 0, 0, 0);
                String what = "18: RISK " + risk + ", a " + a + ": ";
                Due.is(what + "a BLADE", x.out(0, 0), risk > a ? NO : 1);
                Due.is(what + "a NEEDLE", x.out(1, 0), risk > a ? NO : 2);
                Due.is(what + "a TOOL", x.out(2, 0), risk > a ? 1 : 3);
            }
        }
    }

    private static void outBadAheadOfKindAheadOfNo() {
        PrisonShops x = begun(1);
        x.hand(0, 0, 999);
        things(x, ORDER, TOOL);
        x.out(1, 0);
        Due.is("18: no HAND, of an ORDER", x.out(0, 2), BAD);
        Due.is("18: no HAND -1", x.out(1, -1), BAD);
        Due.is("18: no HAND, of what is OUT", x.out(1, NONE), BAD);
        Due.is("18: no THING", x.out(2, 0), BAD);
        Due.is("18: no THING -1", x.out(-1, 0), BAD);
        Due.is("18: no TOOL, to a HAND of no SHOP", x.out(0, 1), KIND);
        Due.is("18: OUT, to a HAND of no SHOP", x.out(1, 1), NO);
    }

    private static void hangWhereItWas() {
        PrisonShops x = begun(1);
        things(x, TOOL, BLADE);
        x.out(1, 0);
        x.bell(0, 0);
        x.bell(0, 0);
        Due.is("19: 2 LOST, which is found", x.hang(0), 2);
        Due.is("19: 1 OUT", x.hang(1), 1);
        Due.is("19: none is OUT", x.count(12), 0);
        Due.is("19: none is LOST", x.count(13), 0);
        x.lock(0, 1);
        x.lock(0, 0);
        x.bell(0, 3);
        x.out(1, 0);
        x.lock(0, 1);
        Due.is("19: a LOCKED SHOP is not asked", x.hang(1), 1);
        x.bell(0, 0);
        Due.is("19: it hangs, SHUT or not", x.hang(1), NO);
    }

    private static void hangRefused() {
        PrisonShops x = begun(1);
        things(x, TOOL, THING, PAPER, ORDER);
        Due.is("19: NO: it hangs", x.hang(0), NO);
        for (int thing = 1; thing < 4; thing++) {
            Due.is("19: KIND", x.hang(thing), KIND);
        }
        Due.is("19: no THING 4", x.hang(4), BAD);
        Due.is("19: no THING -1", x.hang(-1), BAD);
        Due.is("19: the least", x.hang(LEAST), BAD);
    }

    private static void bellOfNoTools() {
        PrisonShops x = begun(0);
        things(x, THING, PAPER, ORDER);
        Due.is("20: nothing is seen", x.bell(0, 0), 0);
        Due.is("20: open", x.has(0, 7), 0);
        Due.is("20: there is no TOOL 0", x.bell(0, 1), BAD);
    }

    private static void bellBitsOfToolsThatThereAreNot() {
        PrisonShops x = begun(0);
        x.thing(TOOL, 1, 0, 0);
        things(x, TOOL, THING, TOOL);
        Due.is("20: two of its TOOLS", x.bell(0, 3), 0);
        Due.is("20: a third", x.bell(0, 4), BAD);
        Due.is("20: a third with those that there are", x.bell(0, 7), BAD);
        Due.is("20: the highest bit", x.bell(0, LEAST), BAD);
        Due.is("20: all bits", x.bell(0, -1), BAD);
        Due.is("20: bit 30", x.bell(0, 1 << 30), BAD);
        Due.is("20: no SHOP 2", x.bell(2, 0), BAD);
        Due.is("20: no SHOP -1", x.bell(-1, 0), BAD);
        Due.is("20: not SHUT by what is refused", x.has(0, 7), 0);
    }

    private static void bellBitsByTheirOrder() {
        PrisonShops x = begun(1);
        x.thing(TOOL, 1, 0, 0);
        things(x, THING, TOOL, ORDER, BLADE, PAPER, NEEDLE);
        x.out(4, 0);
        Due.is("20: TOOL 1 is OUT, 0 and 2 hang", x.bell(0, 5), 0);
        Due.is("20: LOST: 2", x.bell(0, 1) + x.bell(0, 1), 2);
        Due.is("20: a NEEDLE", x.told(6, 4), 2);
        Due.is("20: LOST ones have their bits, too", x.bell(0, 5), 0);
        x.hang(6);
        Due.is("20: all as it was", x.bell(0, 5), 0);
    }

    private static void bellOfWhatHangs() {
        PrisonShops x = begun(0);
        for (int i = 0; i < 30; i++) {
            x.thing(TOOL, 0, 0, 0);
        }
        Due.is("20: those that hang and are seen", x.bell(0, (1 << 30) - 1), 0);
        Due.is("20: those that hang and are not seen", x.bell(0, 0), 30);
        Due.is("20: all but the last", x.bell(0, (1 << 29) - 1), 1);
        Due.is("20: which is LOST", x.told(29, 4), 2);
        Due.is("20: it alone", x.count(13), 1);
    }

    private static void bellOfWhatIsOut() {
        PrisonShops x = begun(1);
        things(x, TOOL, TOOL);
        x.out(0, 0);
        Due.is("20: OUT and not seen", x.bell(0, 2), 0);
        Due.is("20: seen and OUT", x.bell(0, 3), 1);
        Due.is("20: SHUT", x.has(0, 7), 1);
        Due.is("20: seen and OUT again", x.bell(0, 3), 1);
        Due.is("20: it is OUT still", x.told(0, 4), 1);
        Due.is("20: to whom it was", x.told(0, 5), 0);
    }

    private static void bellOfWhatIsLost() {
        PrisonShops x = begun(0);
        things(x, TOOL);
        x.bell(0, 0);
        x.bell(0, 0);
        Due.is("20: LOST and not seen", x.bell(0, 0), 0);
        Due.is("20: LOST and seen", x.bell(0, 1), 0);
        Due.is("20: it is LOST still", x.told(0, 4), 2);
        Due.is("20: open", x.has(0, 7), 0);
    }

    private static void bellShutsTillTheyAgree() {
        PrisonShops x = begun(0);
        things(x, TOOL);
        x.thing(TOOL, 1, 0, 0);
        Due.is("20: at first SHUT is false", x.has(0, 7), 0);
        x.bell(0, 0);
        Due.is("20: else SHUT is true", x.has(0, 7), 1);
        Due.is("20: for the SHOP", x.has(1, 7), 0);
        x.run(3);
        Due.is("20: no DAY opens it", x.has(0, 7), 1);
        x.bell(1, 1);
        Due.is("20: nor a BELL of another", x.has(0, 7), 1);
        x.bell(0, 1);
        Due.is("20: if all AGREE doors are open", x.has(0, 7), 0);
    }

    private static void bellLosesWhatIsMissedTwice() {
        PrisonShops x = begun(0);
        things(x, TOOL, TOOL, TOOL);
        x.bell(0, 6);
        Due.is("20: missed once", x.told(0, 4), 0);
        x.bell(0, 4);
        Due.is("20: and at the BELL ahead of this one, too", x.told(0, 4), 2);
        Due.is("20: once only", x.told(1, 4), 0);
        x.bell(0, 4);
        Due.is("20: now twice", x.told(1, 4), 2);
        Due.is("20: seen always", x.told(2, 4), 0);
    }

    private static void bellsOfAnotherShopAreNone() {
        PrisonShops x = begun(0);
        things(x, TOOL);
        x.thing(TOOL, 1, 0, 0);
        x.bell(0, 0);
        x.bell(1, 0);
        Due.is("20: the BELL of that SHOP: none is LOST", x.count(13), 0);
        x.bell(1, 0);
        Due.is("20: of the other one", x.told(1, 4), 2);
        Due.is("20: not of this", x.told(0, 4), 0);
        x.bell(0, 0);
        Due.is("20: of this", x.told(0, 4), 2);
    }

    private static void bellAheadMissedNothing() {
        PrisonShops x = begun(1);
        things(x, TOOL);
        x.bell(0, 0);
        x.bell(0, 1);
        x.bell(0, 0);
        Due.is("20: seen in between", x.told(0, 4), 0);
        x.bell(0, 1);
        x.out(0, 0);
        x.bell(0, 0);
        x.hang(0);
        x.bell(0, 0);
        Due.is("20: not seen as it was OUT at the BELL ahead", x.told(0, 4), 0);
        x.bell(0, 0);
        Due.is("20: it hung at that one", x.told(0, 4), 2);
        PrisonShops y = begun(0);
        things(y, TOOL);
        y.bell(0, 0);
        y.bell(0, 2);
        y.bell(0, -1);
        Due.is("20: a BELL that is refused is none", y.told(0, 4), 0);
    }

    private static void bellLostOneDoesNotAgreeStill() {
        PrisonShops x = begun(0);
        things(x, TOOL);
        x.bell(0, 0);
        Due.is("20: it is one that does not AGREE, still", x.bell(0, 0), 1);
        Due.is("20: SHUT, still", x.has(0, 7), 1);
        Due.is("20: not at the next", x.bell(0, 0), 0);
    }

    private static void bellOfAFoundOne() {
        PrisonShops x = begun(0);
        things(x, TOOL);
        x.bell(0, 0);
        x.bell(0, 0);
        x.bell(0, 0);
        x.hang(0);
        Due.is("20: found: it hangs and is not seen", x.bell(0, 0), 1);
        Due.is("20: at the BELL ahead it was LOST", x.told(0, 4), 0);
        Due.is("20: now it hung", x.bell(0, 0), 1);
        Due.is("20: LOST again", x.told(0, 4), 2);
    }

    private static void whoOfTen() {
        PrisonShops x = new PrisonShops();
        for (int i = 0; i < 3; i++) {
            x.shop(5, 3, 0);
        }
        for (int i = 0; i < 10; i++) {
            x.hand(0, 0, 99);
            x.put(i, i / 5);
            x.thing(TOOL, i / 5, 0, 0);
            x.out(i, i);
        }
        Due.is("21: HANDS 0 to 4", x.who(0), 31);
        Due.is("21: HANDS 5 to 9", x.who(1), 992);
        Due.is("21: nobody", x.who(2), 0);
        x.hang(9);
        Due.is("21: OUT now", x.who(1), 480);
        x.put(0, NONE);
        Due.is("21: it hangs again", x.who(0), 30);
    }

    private static void whoAsksForShop() {
        PrisonShops x = begun(1);
        things(x, TOOL, TOOL);
        x.out(0, 0);
        x.out(1, 0);
        Due.is("21: who has two stands once", x.who(0), 1);
        Due.is("21: no SHOP 2", x.who(2), BAD);
        Due.is("21: no SHOP -1", x.who(-1), BAD);
        Due.is("21: NONE is no SHOP", x.who(NONE), BAD);
    }

    private static void lateOfAnOpenOrder() {
        PrisonShops x = begun(0);
        x.thing(ORDER, 0, 9999, 2);
        x.thing(ORDER, 0, 9999, 999);
        int[] due = {-2, -1, 0, 1};
        for (int day = 0; day < due.length; day++) {
            Due.is("22: while OPEN the DAY that is open", x.late(0), due[day]);
            Due.is("22: below 0: ahead", x.late(1), day - 999);
            x.run(1);
        }
    }

    private static void lateOfADoneOrder() {
        PrisonShops x = begun(1);
        x.rate(0, 1);
        x.thing(ORDER, 0, 3, 0);
        x.thing(ORDER, 0, 1, 3);
        x.thing(ORDER, 0, 1, 9);
        x.run(5);
        Due.is("22: DONE on DAY 2, DATE 0", x.late(0), 2);
        Due.is("22: DONE on DAY 3, DATE 3", x.late(1), 0);
        Due.is("22: DONE on DAY 4, DATE 9", x.late(2), -5);
        x.run(9);
        Due.is("22: it stays", x.late(0), 2);
        PrisonShops y = begun(1);
        y.thing(ORDER, 0, 1, 4);
        y.run(1);
        Due.is("22: DONE on DAY 0", y.late(0), -4);
    }

    private static void lateRefused() {
        PrisonShops x = begun(0);
        things(x, THING, TOOL, BLADE, NEEDLE, PAPER);
        for (int thing = 0; thing < 5; thing++) {
            Due.is("22: KIND: it is none", x.late(thing), KIND);
        }
        Due.is("22: no THING 5", x.late(5), BAD);
        Due.is("22: no THING -1", x.late(-1), BAD);
    }

    private static void foretoldOfNothingOpen() {
        PrisonShops x = begun(0);
        Due.is("23: all its ORDERS would be DONE on this DAY", x.foretold(0), 0);
        x.thing(PAPER, 0, 9, 0);
        x.thing(ORDER, 1, 9, 0);
        x.run(7);
        Due.is("23: on this DAY, whatever another SHOP has", x.foretold(0), 7);
        Due.is("23: with nobody in it", x.foretold(1), NONE);
    }

    private static void foretoldFromThisDayOn() {
        PrisonShops x = begun(1);
        x.thing(ORDER, 0, 5, 0);
        Due.is("23: at the end of this one", x.foretold(0), 0);
        x.thing(ORDER, 0, 1, 0);
        Due.is("23: one PIECE more, a DAY more", x.foretold(0), 1);
        x.run(1);
        Due.is("23: as it comes", x.foretold(0), 1);
        Due.is("23: nothing is DONE by asking", x.count(5), 1);
        PrisonShops y = begun(1);
        y.run(2);
        y.put(0, NONE);
        y.thing(ORDER, 0, 10, 0);
        Due.is("23: what is MADE already is enough", y.foretold(0), 2);
        y.thing(ORDER, 0, 1, 0);
        Due.is("23: what is MADE already is not enough", y.foretold(0), NONE);
    }

    private static void foretoldByDateThenNumber() {
        PrisonShops x = begun(1);
        x.thing(ORDER, 0, 2, 9);
        x.thing(ORDER, 0, 12, 3);
        x.thing(ORDER, 0, 2, 9);
        Due.is("23: 16 of 5 a DAY", x.foretold(0), 3);
        x.run(3);
        Due.is("23: the one with the earlier DATE is DONE", x.told(1, 6), 2);
        Due.is("23: then by number", x.told(0, 6), 2);
        Due.is("23: and one is OPEN", x.told(2, 6), NONE);
        Due.is("23: on the DAY that was foretold", x.foretold(0), 3);
    }

    private static void foretoldOfThirtyOrders() {
        PrisonShops x = begun(0);
        x.hand(0, 3, 999);
        x.put(0, 0);
        for (int i = 0; i < 30; i++) {
            x.thing(ORDER, 0, 8, 30 - i);
        }
        Due.is("23: all its OPEN ORDERS, one a DAY", x.foretold(0), 29);
        x.run(4);
        Due.is("23: 26 of them are OPEN", x.foretold(0), 29);
        x.rate(0, 99);
        Due.is("23: 12 of them a DAY, and 6 PIECES", x.foretold(0), 6);
    }

    /** One HAND of SKILL 3 at RATE 0 makes 3 PIECES a DAY. */
    private static void foretoldOfTheThousandthDay() {
        PrisonShops x = begun(0);
        x.hand(0, 3, 999);
        x.put(0, 0);
        x.rate(0, 0);
        x.thing(ORDER, 0, 3000, 0);
        Due.is("23: within 1000 DAYS", x.foretold(0), 999);
        x.thing(ORDER, 0, 1, 0);
        Due.is("23: not within 1000 DAYS", x.foretold(0), NONE);
        x.put(0, NONE);
        x.run(60);
        x.put(0, 0);
        Due.is("23: not within 1000 DAYS from this one on", x.foretold(0), NONE);
        x.run(1);
        Due.is("23: the last of them is behind DAY 999", x.foretold(0), 1060);
    }

    private static void foretoldSkillAndLearntGoOn() {
        PrisonShops x = begun(1);
        x.rate(0, 0);
        x.run(9);
        x.thing(ORDER, 0, 1, 0);
        Due.is("23: the tenth TURN makes nothing yet", x.foretold(0), 10);
        x.run(1);
        Due.is("23: SKILL 1 now", x.is(0, 1), 1);
        Due.is("23: as foretold", x.foretold(0), 10);
        x.thing(ORDER, 0, 9, 0);
        Due.is("23: ten TURNS of SKILL 1", x.foretold(0), 19);
        x.thing(ORDER, 0, 2, 0);
        Due.is("23: then of SKILL 2", x.foretold(0), 20);
        Due.is("23: LEARNT is as it was", x.is(0, 7), 0);
    }

    private static void foretoldSkillIs3AtMost() {
        PrisonShops x = begun(0);
        x.hand(0, 2, 999);
        x.put(0, 0);
        x.rate(0, 0);
        x.thing(ORDER, 0, 20 + 30 * 3, 0);
        Due.is("23: ten TURNS of SKILL 2, thirty of SKILL 3", x.foretold(0), 39);
        x.thing(ORDER, 0, 1, 0);
        Due.is("23: one PIECE more", x.foretold(0), 40);
    }

    private static void foretoldLooksNotAtCourtTermsLocks() {
        PrisonShops x = begun(0);
        x.hand(0, 0, 1);
        x.put(0, 0);
        x.thing(ORDER, 0, 20, 0);
        Due.is("23: TERMS are not looked at", x.foretold(0), 3);
        x.be(0, 9, 0);
        Due.is("23: nor COURT days", x.foretold(0), 3);
        x.lock(0, 99);
        Due.is("23: nor LOCKS", x.foretold(0), 3);
        x.bell(0, 0);
        x.run(2);
        Due.is("23: but who is FREE is in no SHOP", x.foretold(0), NONE);
    }

    private static void foretoldOfHandsAsTheyAreNow() {
        PrisonShops x = begun(5);
        x.thing(ORDER, 0, 50, 0);
        Due.is("23: five HANDS, 25 a DAY", x.foretold(0), 1);
        x.put(4, 1);
        Due.is("23: four HANDS, 20 a DAY", x.foretold(0), 2);
        x.be(0, 1, 3);
        x.be(1, 1, 2);
        Due.is("23: 25 a DAY", x.foretold(0), 1);
        x.rate(0, 99);
        Due.is("23: RATE 99", x.foretold(0), 0);
    }

    private static void foretoldAsksForShop() {
        PrisonShops x = begun(0);
        Due.is("23: no SHOP 2", x.foretold(2), BAD);
        Due.is("23: no SHOP -1", x.foretold(-1), BAD);
        Due.is("23: NONE is no SHOP", x.foretold(NONE), BAD);
    }
}
