/** Promises 38 to 49, one after the other: searches, counts, rows and images. */
public final class CountsPromisesTest {
    private static final int BAD = PrisonShops.BAD, NO = PrisonShops.NO, FULL = PrisonShops.FULL, NONE = PrisonShops.NONE;
    private static final int NOTHING = PrisonShops.NOTHING, KIND = PrisonShops.KIND, INDEX = PrisonShops.INDEX;
    private static final int SIZE = PrisonShops.SIZE;

    public static void main(String[] args) {
        promise38Seed();
        promise39Search();
        promise39All();
        promise40Sheet();
        promise41Mark();
        promise42Grow();
        promise43Copy();
        promise43Refusals();
        promise44Odd();
        promise45Tell();
        promise46Check();
        promise46Days();
        promise47Keep();
        promise48Back();
        promise48ComesAnew();
        promise48LeavesTheRest();
        promise49Count();
        Due.end();
    }

    private static void promise38Seed() {
        PrisonShops x = new PrisonShops();
        Due.is("38: 0 at first", x.seed(65535), 0);
        Due.is("38: what it was", x.seed(0), 65535);
        Due.is("38: below", x.seed(-1), BAD);
        Due.is("38: above", x.seed(65536), BAD);
        Due.is("38: it stays", x.seed(7), 0);
        Due.is("38: counted", x.count(11), 7);
    }

    private static void promise39Search() {
        PrisonShops x = new PrisonShops();
        Due.is("39: none", x.search(0), BAD);
        Due.is("39: eleven", x.search(11), BAD);
        Due.is("39: below", x.search(-1), BAD);
        for (int i = 0; i < 5; i++) {
            x.hand(0, 0, i == 1 ? 1 : 99);
        }
        x.seed(1);
        // 39022, its rest by 5 is 2: hand 2; the next is drawn of those left
        int second = (int) ((39022L * 25173 + 13849) % 65536);
        int[] left = {0, 1, 3, 4};
        Due.is("39: two", x.search(2), 1 << 2 | 1 << left[second % 4]);
        Due.is("39: the seed goes on", x.count(11), second);
        x.seed(65535);
        Due.is("39: one", x.search(1), 1 << (int) ((65535L * 25173 + 13849) % 65536 % 5));
        x.run(2);
        x.seed(1);
        int[] notFree = {0, 2, 3, 4};
        Due.is("39: not the free", x.search(1), 1 << notFree[39022 % 4]);
        PrisonShops y = new PrisonShops();
        y.hand(0, 0, 1);
        y.hand(0, 0, 9);
        y.run(2);
        Due.is("39: nor hand 0, if it is free", y.search(2), 2);
        Due.is("39: that is one free", y.count(2), 1);
    }

    private static void promise39All() {
        PrisonShops x = new PrisonShops();
        Due.is("39: nobody", x.search(10), 0);
        Due.is("39: no draw", x.count(11), 0);
        x.hand(0, 0, 9);
        x.hand(0, 0, 9);
        Due.is("39: all of fewer", x.search(3), 3);
        Due.is("39: each is drawn", x.count(11), (int) ((13849L * 25173 + 13849) % 65536));
        x.seed(0);
        Due.is("39: all", x.search(2), 3);
        Due.is("39: each is drawn, too", x.count(11), (int) ((13849L * 25173 + 13849) % 65536));
        for (int i = 0; i < 8; i++) {
            x.hand(0, 0, 9);
        }
        Due.is("39: all ten", x.search(10), 1023);
        Due.is("39: nine", Integer.bitCount(x.search(9)), 9);
    }

    private static void promise40Sheet() {
        PrisonShops x = new PrisonShops();
        Due.is("40: sheet below", x.sheet(-1, 0, 1), BAD);
        Due.is("40: sheet above", x.sheet(4, 0, 1), BAD);
        Due.is("40: sort below", x.sheet(0, -2, 1), BAD);
        Due.is("40: sort above", x.sheet(0, 3, 1), BAD);
        Due.is("40: too many", x.sheet(0, 0, 25), BAD);
        Due.is("40: below 0", x.sheet(0, 0, -1), SIZE);
        Due.is("40: BAD ahead of SIZE", x.sheet(0, 3, -1), BAD);
        Due.is("40: it is missing, still", x.mark(0, 0, 1), NOTHING);
        Due.is("40: 24", x.sheet(3, 2, 24), 24);
        Due.is("40: all 0", x.grow(3, 23, 0), 0);
        x.mark(3, 23, 9);
        x.mark(3, 0, 9);
        Due.is("40: none", x.sheet(3, 1, 0), 0);
        Due.is("40: no place", x.mark(3, 0, 1), INDEX);
        x.sheet(3, 2, 24);
        Due.is("40: all 0 again", x.grow(3, 23, 0), 0);
        Due.is("40: and the first place", x.grow(3, 0, 0), 0);
        Due.is("40: missing, n below", x.sheet(3, -1, -7), 0);
        Due.is("40: missing, n above", x.sheet(3, -1, 99), 0);
        Due.is("40: it is", x.mark(3, 0, 1), NOTHING);
        Due.is("40: sheet above, missing", x.sheet(4, -1, 0), BAD);
    }

    private static void promise41Mark() {
        PrisonShops x = new PrisonShops();
        x.sheet(0, 0, 3);
        x.sheet(1, 1, 3);
        x.sheet(2, 2, 3);
        Due.is("41: a byte", x.mark(0, 2, 127), 127);
        Due.is("41: its lowest 8 bits", x.mark(0, 2, 0x1280), -128);
        Due.is("41: a short", x.mark(1, 0, 32767), 32767);
        Due.is("41: its lowest 16 bits", x.mark(1, 0, 0x18000), -32768);
        Due.is("41: a long", x.mark(2, 1, Integer.MIN_VALUE), Integer.MIN_VALUE);
        Due.is("41: it is not added", x.mark(2, 1, -1), -1);
        Due.is("41: sheet below", x.mark(-1, 0, 1), BAD);
        Due.is("41: sheet above", x.mark(4, 0, 1), BAD);
        Due.is("41: missing", x.mark(3, -1, 1), NOTHING);
        Due.is("41: place below", x.mark(0, -1, 1), INDEX);
        Due.is("41: place above", x.mark(0, 3, 1), INDEX);
        Due.is("41: the others are 0", x.grow(0, 1, 0), 0);
    }

    private static void promise42Grow() {
        PrisonShops x = new PrisonShops();
        x.sheet(0, 0, 1);
        x.sheet(1, 1, 1);
        x.sheet(2, 2, 1);
        x.mark(0, 0, 3);
        Due.is("42: a byte", x.grow(0, 0, 2), (byte) 3002);
        x.mark(1, 0, 33);
        Due.is("42: a short", x.grow(1, 0, -7), (short) 32993);
        long due = 0;
        for (int i = 0; i < 9; i++) {
            due = due * 1000 + 123456789;
            Due.is("42: a long, wrapping", x.grow(2, 0, 123456789), (int) due);
        }
        x.mark(2, 0, 0);
        x.grow(2, 0, -1);
        Due.is("42: below 0", x.grow(2, 0, 0), -1000);
        x.sheet(3, 2, 1);
        x.mark(3, 0, -1000);
        Due.is("42: a long below 0 is one", x.odd(0), 3);
        Due.is("42: sheet below", x.grow(-1, 0, 1), BAD);
        Due.is("42: sheet above", x.grow(4, 0, 1), BAD);
        Due.is("42: place below", x.grow(0, -1, 1), INDEX);
        Due.is("42: place above", x.grow(0, 1, 1), INDEX);
        x.sheet(3, -1, 0);
        Due.is("42: missing", x.grow(3, 9, 1), NOTHING);
    }

    /** A sheet of places 1, 2, 3 and so on. */
    private static void numbered(PrisonShops x, int sheet, int sort, int n) {
        x.sheet(sheet, sort, n);
        for (int i = 0; i < n; i++) {
            x.mark(sheet, i, i + 1);
        }
    }

    /** Whether a sheet has these places: none is odd beside a sheet that has them; the others are gone then. */
    private static void places(String what, PrisonShops x, int sheet, int... due) {
        x.sheet(3, 2, due.length);
        for (int i = 0; i < due.length; i++) {
            x.mark(3, i, due[i]);
        }
        for (int other = 0; other < 3; other++) {
            if (other != sheet) {
                x.sheet(other, -1, 0);
            }
        }
        for (int i = 0; i < due.length; i++) {
            Due.is(what + ", place " + i, x.odd(i), 0);
        }
    }

    private static void promise43Copy() {
        PrisonShops x = new PrisonShops();
        numbered(x, 0, 1, 5);
        x.sheet(1, 1, 4);
        Due.is("43: to another", x.copy(0, 1, 1, 0, 3), 3);
        places("43: to another", x, 1, 2, 3, 4, 0);
        numbered(x, 0, 2, 5);
        Due.is("43: on in the same", x.copy(0, 0, 0, 1, 4), 4);
        places("43: on, as they were", x, 0, 1, 1, 2, 3, 4);
        numbered(x, 0, 0, 5);
        Due.is("43: back in the same", x.copy(0, 2, 0, 1, 3), 3);
        places("43: back, as they were", x, 0, 1, 3, 4, 5, 5);
        numbered(x, 0, 2, 24);
        x.sheet(1, 2, 24);
        Due.is("43: all", x.copy(0, 0, 1, 0, 24), 24);
        Due.is("43: none", x.copy(0, 24, 1, 24, 0), 0);
    }

    private static void promise43Refusals() {
        PrisonShops x = new PrisonShops();
        numbered(x, 0, 0, 5);
        x.sheet(1, 0, 4);
        x.sheet(2, 1, 5);
        Due.is("43: from below", x.copy(-1, 0, 1, 0, 1), BAD);
        Due.is("43: from above", x.copy(4, 0, 1, 0, 1), BAD);
        Due.is("43: to below", x.copy(0, 0, -1, 0, 1), BAD);
        Due.is("43: to above", x.copy(0, 0, 4, 0, 1), BAD);
        Due.is("43: from a missing one", x.copy(3, 0, 1, 0, 1), NOTHING);
        Due.is("43: to a missing one", x.copy(0, 0, 3, 0, 1), NOTHING);
        Due.is("43: NOTHING ahead of INDEX", x.copy(0, 9, 3, 0, 1), NOTHING);
        Due.is("43: of another sort", x.copy(0, 0, 2, 0, 1), KIND);
        Due.is("43: KIND ahead of INDEX", x.copy(0, 9, 2, 0, 1), KIND);
        Due.is("43: place below", x.copy(0, -1, 1, 0, 1), INDEX);
        Due.is("43: at below", x.copy(0, 0, 1, -1, 1), INDEX);
        Due.is("43: many below", x.copy(0, 0, 1, 0, -1), INDEX);
        Due.is("43: too many from", x.copy(0, 3, 1, 0, 3), INDEX);
        Due.is("43: too many to", x.copy(0, 0, 1, 0, 5), INDEX);
        Due.is("43: more than any", x.copy(0, 0, 1, 0, Integer.MAX_VALUE), INDEX);
        Due.is("43: a place that wraps", x.copy(0, Integer.MAX_VALUE, 1, 0, 1), INDEX);
        Due.is("43: an at that wraps", x.copy(0, 0, 1, Integer.MAX_VALUE, 4), INDEX);
        places("43: nothing changed", x, 1, 0, 0, 0, 0);
    }

    private static void promise44Odd() {
        PrisonShops x = new PrisonShops();
        Due.is("44: none", x.odd(0), NONE);
        Due.is("44: below", x.odd(-1), BAD);
        x.sheet(1, 0, 2);
        Due.is("44: one alone", x.odd(0), 0);
        x.sheet(0, 2, 1);
        x.sheet(2, 1, 3);
        x.sheet(3, 2, 2);
        Due.is("44: all 0", x.odd(0), 0);
        x.mark(0, 0, 5);
        Due.is("44: the first is the odd one", x.odd(0), 3);
        x.mark(2, 0, 5);
        Due.is("44: two from the first", x.odd(0), 2);
        x.mark(1, 1, -1);
        x.mark(2, 1, -1);
        x.mark(3, 1, 255);
        Due.is("44: only those that have it", x.odd(1), 1);
        Due.is("44: the last one", x.odd(2), 0);
        Due.is("44: none has it", x.odd(3), NONE);
        Due.is("44: far off", x.odd(Integer.MAX_VALUE), NONE);
    }

    private static void promise45Tell() {
        PrisonShops x = new PrisonShops();
        for (int i = 1; i <= 60; i++) {
            Due.is("45: tell " + i, x.tell(-i), i);
        }
        Due.is("45: one more", x.tell(1), FULL);
        Due.is("45: sixty", x.count(8), 60);
    }

    private static void told(PrisonShops x, int... numbers) {
        for (int v : numbers) {
            x.tell(v);
        }
    }

    private static void promise46Check() {
        PrisonShops x = new PrisonShops();
        x.shop(2, 3, 0);
        x.hand(0, 1, 99);
        x.put(0, 0);
        told(x, 1, 2, 3);
        Due.is("46: BAD ahead of no image", x.check(0), BAD);
        Due.is("46: none wait", x.count(8), 0);
        told(x, 6, 6);
        Due.is("46: no image", x.check(1), NO);
        Due.is("46: none wait, again", x.count(8), 0);
        x.keep();
        Due.is("46: 31", x.check(31), BAD);
        Due.is("46: below", x.check(-1), BAD);
        told(x, 6, 6, 12, 12);
        Due.is("46: right", x.check(2), 0);
        Due.is("46: none wait when right", x.count(8), 0);
        Due.is("46: all missing", x.check(2), 1);
        told(x, 6, 6, 12);
        Due.is("46: one missing", x.check(2), 4);
        told(x, 6, 6, 12, 12, 18);
        Due.is("46: one too many", x.check(2), 5);
        told(x, 7, 6, 12, 12);
        Due.is("46: the first", x.check(2), 1);
        told(x, 6, 6, 12, 13);
        Due.is("46: the last", x.check(2), 4);
        told(x, 6, 6, 13, 12);
        Due.is("46: the last but one", x.check(2), 3);
        told(x, 6, 6, 12, 12, 18, 18, 25, 24);
        Due.is("46: the seventh", x.check(4), 7);
        x.rate(0, 50);
        x.run(5);
        told(x, 6, 6);
        Due.is("46: from the image on", x.check(1), 0);
        Due.is("46: nothing passed", x.count(10), 5);
    }

    private static void promise46Days() {
        PrisonShops x = new PrisonShops();
        x.shop(2, 3, 0);
        x.shop(2, 3, 0);
        x.hand(0, 0, 2);
        x.hand(0, 3, 999);
        x.put(0, 0);
        x.put(1, 1);
        x.thing(5, 1, 20, 0);
        Due.text(x, 1, "pay n*2");
        x.keep();
        // EARNED of 5 and 8, then twice as much a day, till hand 0 is free; MADE 13 a day, 20 of it for the order of shop 1
        told(x, 13, 13, 39, 26, 40, 19, 56, 27);
        Due.is("46: all hands, all shops", x.check(4), 0);
        for (int i = 0; i < 17; i++) {
            x.run(58);
        }
        x.keep();
        int earned = x.is(1, 10);
        int made = x.has(0, 6) + x.has(1, 6);
        // day 999 is the fourteenth; at its end hand 1 is free
        for (int i = 1; i <= 30; i++) {
            told(x, i < 14 ? earned + 16 * i : 0, made + 8 * Math.min(i, 14));
        }
        Due.is("46: thirty days, also behind day 999", x.check(30), 0);
        Due.is("46: the day stays", x.count(10), 986);
    }

    private static void promise47Keep() {
        PrisonShops x = new PrisonShops();
        Due.is("47: day 0", x.keep(), 0);
        x.run(7);
        Due.is("47: day 7", x.keep(), 7);
        x.run(1);
        Due.is("47: the later image", x.back(), 7);
    }

    private static void promise48Back() {
        PrisonShops x = new PrisonShops();
        Due.is("48: none", x.back(), NO);
        x.shop(2, 3, 0);
        x.hand(0, 0, 50);
        x.hand(0, 0, 50);
        x.put(0, 0);
        x.thing(1, 0, 0, 0);
        x.thing(5, 0, 12, 9);
        Due.text(x, 0, "pay n+n");
        x.bar(0, 1, 1);
        x.seed(9);
        x.run(1);
        x.lose(0, 4);
        x.bell(0, 0);
        x.keep();
        for (int again = 0; again < 3; again++) {
            x.rate(0, 50);
            x.bell(0, 0);
            x.hang(0);
            x.bell(0, 1);
            x.out(0, 0);
            Due.text(x, 0, "pay 1");
            x.bar(0, 1, 0);
            x.appeal(0);
            x.lose(1, 5);
            x.hand(1, 1, 9);
            x.shop(1, 1, 1);
            x.thing(4, 1, 7, 0);
            x.search(2);
            x.run(5);
            x.lock(0, 9);
            Due.is("48: the day", x.back(), 1);
            int[] due = {1, 2, 0, 1, 2, 1, 1, 1, 0, 0, 1, 9, 0, 0};
            for (int what = 0; what < due.length; what++) {
                Due.is("48: count(" + what + ")", x.count(what), due[what]);
            }
            Due.is("48: rate", x.has(0, 3), 5);
            Due.is("48: open", x.has(0, 4), 0);
            Due.is("48: made", x.has(0, 6), 5);
            Due.is("48: shut", x.has(0, 7), 1);
            Due.is("48: barred", x.bar(0, 1, 1), 1);
            Due.is("48: text", x.why(0), 0);
            Due.is("48: not appealed", x.event(0, 3), NONE);
            Due.is("48: the order is open", x.told(1, 6), NONE);
            Due.is("48: earned", x.is(0, 10), 10);
            Due.is("48: turns", x.is(0, 6), 1);
        }
        x.bell(0, 0);
        Due.is("48: what was missed at the bell ahead, too", x.told(0, 4), 2);
        Due.text(x, 0, "days w");
        Due.is("48: turns counted", x.earn(0), 1);
        x.back();
        Due.text(x, 0, "days w");
        Due.is("48: are not counted", x.earn(0), 1);
    }

    /** What comes behind an image that came back is as new, whatever stood there. */
    private static void promise48ComesAnew() {
        PrisonShops x = new PrisonShops();
        x.keep();
        x.shop(1, 3, 0);
        x.hand(0, 0, 40);
        x.put(0, 0);
        x.be(0, 3, 5);
        x.be(0, 9, 30);
        x.thing(1, 0, 0, 0);
        x.bell(0, 0);
        x.lock(0, 4);
        x.run(12);
        x.pay(0);
        x.run(1);
        x.hand(0, 0, 40);
        x.bar(0, 1, 1);
        Due.text(x, 0, "days w");
        x.earn(0);
        x.lose(0, 1);
        x.appeal(1);
        x.back();
        x.shop(2, 2, 2);
        x.hand(1, 1, 41);
        x.hand(1, 1, 41);
        x.thing(1, 0, 0, 0);
        int[] shop = {2, 2, 2, 5, 0, 0, 0, 0, 1, 0, 0};
        for (int what = 0; what < shop.length; what++) {
            Due.is("48: new has(0, " + what + ")", x.has(0, what), shop[what]);
        }
        int[] hand = {1, 1, 41, 0, 0, 0, 0, 0, NONE, NONE, 0, 0};
        for (int what = 0; what < hand.length; what++) {
            Due.is("48: new is(0, " + what + ")", x.is(0, what), hand[what]);
        }
        Due.is("48: not barred", x.bar(0, 1, 0), 0);
        x.bell(0, 0);
        Due.is("48: missed for the first time", x.told(0, 4), 0);
        x.lose(0, 3);
        x.lose(0, 3);
        Due.is("48: a new event is not back", x.event(1, 3), NONE);
        Due.text(x, 0, "days w+1");
        Due.is("48: no turns counted", x.earn(0), 1);
    }

    private static void promise48LeavesTheRest() {
        PrisonShops x = new PrisonShops();
        x.keep();
        x.sheet(0, 2, 1);
        x.mark(0, 0, 77);
        x.sheet(1, 2, 1);
        x.tell(1);
        x.feed(1, 2, 3);
        x.back();
        Due.is("48: sheets stay", x.odd(0), 1);
        Due.is("48: numbers wait", x.count(8), 1);
        Due.is("48: the tape stays", x.count(9), 12);
    }

    private static void promise49Count() {
        PrisonShops x = new PrisonShops();
        x.shop(2, 3, 0);
        x.shop(2, 3, 0);
        for (int i = 0; i < 5; i++) {
            x.hand(0, 0, i == 3 ? 1 : 90);
        }
        x.put(0, 0);
        x.put(1, 1);
        x.thing(1, 0, 0, 0);
        x.thing(2, 1, 3, 0);
        x.thing(3, 0, 3, 0);
        x.thing(1, 1, 0, 0);
        x.thing(5, 0, 10, 0);
        x.thing(5, 0, 9999, 0);
        x.thing(4, 0, 9999, 0);
        x.out(0, 0);
        x.out(1, 1);
        x.run(2);
        x.bell(0, 0);
        x.bell(0, 0);
        Due.text(x, 0, "pay n");
        x.lose(0, 1);
        x.lose(0, 2);
        x.tell(0);
        x.feed(0, 0, 0);
        x.trim(5);
        x.seed(44);
        int[] due = {2, 5, 1, 2, 7, 1, 1, 2, 1, 5, 2, 44, 2, 1};
        for (int what = 0; what < due.length; what++) {
            Due.is("49: count(" + what + ")", x.count(what), due[what]);
        }
        Due.is("49: below", x.count(-1), BAD);
        Due.is("49: above", x.count(14), BAD);
    }
}
