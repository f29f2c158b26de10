/** Promises 38 to 49 and section 5 of the Terms: one test for each sentence that names an edge, its words in the test's labels. */
public final class EdgesCountsTest {
    private static final int BAD = PrisonShops.BAD, NO = PrisonShops.NO, FULL = PrisonShops.FULL, NONE = PrisonShops.NONE;
    private static final int NOTHING = PrisonShops.NOTHING, KIND = PrisonShops.KIND, INDEX = PrisonShops.INDEX;
    private static final int SIZE = PrisonShops.SIZE;
    private static final int LEAST = Integer.MIN_VALUE, MOST = Integer.MAX_VALUE;
    private static final int BYTES = 0, SHORTS = 1, LONGS = 2, MISSING = -1;

    public static void main(String[] args) {
        seedIs0To65535();
        drawsMoveTheSeed();
        drawsWrapAt65536();
        searchIs1To10();
        searchByTheSeedsRest();
        searchOfThoseLeft();
        searchOfAllIfThereAreFewer();
        searchNotOfTheFree();
        searchOfNobody();
        sheetsAre0To3();
        sortsAreMissingTo2();
        placesAre0To24();
        placesBelow0AreSize();
        sheetBadAheadOfSize();
        sheetMissingOfAnyN();
        sheetAll0Anew();
        sheetsAreMissingAtFirst();
        markOfBytes();
        markOfShorts();
        markOfLongs();
        markBadAheadOfNothingAheadOfIndex();
        growOfBytes();
        growOfShorts();
        growOfLongsWraps();
        growBadAheadOfNothingAheadOfIndex();
        copyOfAll();
        copyOfNone();
        copyToTheSameAsTheyWere();
        copyIndex();
        copyRefusalsInTheirOrder();
        copyOfEachSort();
        oddBelow0();
        oddOfNone();
        oddFromTheFirstThatHasIt();
        oddOfSeveralSorts();
        oddOfWideLongs();
        tellSixtyAtMost();
        checkIs1To30();
        checkWithoutAnImage();
        checkUsesTheNumbersUp();
        checkMissing();
        checkOneTooMany();
        checkFirstThatIsNot();
        checkOfSixty();
        checkOfTheImageNotOfNow();
        checkChangesNothing();
        keepIsTheDay();
        keepAgain();
        backWithoutAnImage();
        backAgainAndAgain();
        backToAnEmptyOne();
        backLeavesSheetsNumbersTape();
        backTakesTheSeed();
        backTakesWhatIsNotSeen();
        countIs0To13();
        countOfEach();
        Due.end();
    }

    private static PrisonShops hands(int n) {
        PrisonShops x = new PrisonShops();
        for (int i = 0; i < n; i++) {
            x.hand(0, 0, 999);
        }
        return x;
    }

    private static int next(int seed) {
        return (int) ((seed * 25173L + 13849) % 65536);
    }

    private static void seedIs0To65535() {
        PrisonShops x = new PrisonShops();
        for (int v : new int[] {LEAST, -1, 65536, MOST}) {
            Due.is("38: no SEED " + v, x.seed(v), BAD);
        }
        Due.is("38: 0 at first", x.seed(65535), 0);
        Due.is("38: 65535", x.seed(0), 65535);
        Due.is("38: 0", x.seed(1), 0);
        Due.is("38: it is 1", x.count(11), 1);
    }

    private static void drawsMoveTheSeed() {
        PrisonShops x = hands(3);
        x.search(1);
        Due.is("38: each draw makes it 25173 times it and 13849", x.count(11), 13849);
        x.search(1);
        Due.is("38: its rest by 65536", x.count(11), next(13849));
        Due.is("38: what it was", x.seed(0), next(13849));
    }

    private static void drawsWrapAt65536() {
        for (int seed : new int[] {0, 1, 2, 3, 32767, 32768, 65534, 65535}) {
            PrisonShops x = hands(7);
            x.seed(seed);
            Due.is("39: the SEED's rest by how many are left", x.search(1), 1 << next(seed) % 7);
            Due.is("39: the SEED behind " + seed, x.count(11), next(seed));
        }
    }

    private static void searchIs1To10() {
        PrisonShops x = hands(10);
        for (int m : new int[] {LEAST, -1, 0, 11, MOST}) {
            Due.is("39: no SEARCH of " + m, x.search(m), BAD);
        }
        Due.is("39: no draw by what is refused", x.count(11), 0);
        for (int m = 1; m <= 10; m++) {
            Due.is("39: as many", Integer.bitCount(x.search(m)), m);
        }
    }

    private static void searchByTheSeedsRest() {
        for (int n = 1; n <= 10; n++) {
            PrisonShops x = hands(n);
            int seed = 0;
            for (int i = 0; i < 9; i++) {
                seed = next(seed);
                Due.is("39: one of " + n, x.search(1), 1 << seed % n);
            }
        }
    }

    /** SEED 0 gives 13849, 55398, 30647 and so on. */
    private static void searchOfThoseLeft() {
        PrisonShops x = hands(4);
        int[] left = {0, 1, 2, 3};
        int seed = 0;
        int due = 0;
        for (int n = 4; n > 1; n--) {
            seed = next(seed);
            int place = seed % n;
            due |= 1 << left[place];
            System.arraycopy(left, place + 1, left, place, n - place - 1);
        }
        Due.is("39: m are drawn, one after the other, of those left", x.search(3), due);
        Due.is("39: three draws", x.count(11), seed);
    }

    private static void searchOfAllIfThereAreFewer() {
        PrisonShops x = hands(3);
        Due.is("39: all of them, if there are fewer", x.search(4), 7);
        x.seed(0);
        Due.is("39: as many as there are", x.search(3), 7);
        x.seed(0);
        Due.is("39: ten of three", x.search(10), 7);
    }

    private static void searchNotOfTheFree() {
        PrisonShops x = new PrisonShops();
        for (int i = 0; i < 4; i++) {
            x.hand(0, 0, i % 2 == 0 ? 1 : 99);
        }
        x.run(2);
        Due.is("39: of all who are not FREE", x.search(10), 10);
        x.seed(0);
        Due.is("39: their place, by numbers", x.search(1), 13849 % 2 == 0 ? 2 : 8);
    }

    private static void searchOfNobody() {
        PrisonShops x = new PrisonShops();
        Due.is("39: nobody", x.search(1), 0);
        Due.is("39: ten of nobody", x.search(10), 0);
        x.hand(0, 0, 1);
        x.run(2);
        Due.is("39: nobody who is not FREE", x.search(1), 0);
        Due.is("39: nothing is drawn", x.count(11), 0);
    }

    private static void sheetsAre0To3() {
        PrisonShops x = new PrisonShops();
        for (int sheet : new int[] {LEAST, -1, 4, MOST}) {
            Due.is("40: no SHEET " + sheet, x.sheet(sheet, BYTES, 1), BAD);
            Due.is("40: no SHEET " + sheet + ", MISSING", x.sheet(sheet, MISSING, 1), BAD);
        }
        for (int sheet = 0; sheet < 4; sheet++) {
            Due.is("40: SHEET " + sheet, x.sheet(sheet, BYTES, 5 + sheet), 5 + sheet);
        }
    }

    private static void sortsAreMissingTo2() {
        PrisonShops x = new PrisonShops();
        for (int sort : new int[] {LEAST, -2, 3, MOST}) {
            Due.is("40: no sort " + sort, x.sheet(0, sort, 1), BAD);
        }
        for (int sort = 0; sort < 3; sort++) {
            Due.is("40: sort " + sort, x.sheet(0, sort, 1), 1);
            Due.is("40: all 0", x.odd(0), 0);
        }
    }

    private static void placesAre0To24() {
        for (int sort = 0; sort < 3; sort++) {
            PrisonShops x = new PrisonShops();
            Due.is("40: 24 places", x.sheet(3, sort, 24), 24);
            Due.is("40: the last one", x.mark(3, 23, 1), 1);
            Due.is("40: no 25th", x.mark(3, 24, 1), INDEX);
            Due.is("40: BAD: n above 24", x.sheet(3, sort, 25), BAD);
            Due.is("40: BAD: the most", x.sheet(3, sort, MOST), BAD);
            Due.is("40: it has 24 still", x.mark(3, 23, 2), 2);
            Due.is("40: no place", x.sheet(3, sort, 0), 0);
            Due.is("40: is there, but has none", x.mark(3, 0, 1), INDEX);
        }
    }

    private static void placesBelow0AreSize() {
        PrisonShops x = new PrisonShops();
        for (int sort = 0; sort < 3; sort++) {
            Due.is("40: SIZE: a number of places is below 0", x.sheet(0, sort, -1), SIZE);
            Due.is("40: SIZE: the least", x.sheet(0, sort, LEAST), SIZE);
        }
        Due.is("40: it is MISSING still", x.mark(0, 0, 1), NOTHING);
        x.sheet(0, BYTES, 2);
        x.mark(0, 1, 9);
        x.sheet(0, BYTES, -1);
        Due.is("40: it is as it was", x.grow(0, 1, 0), (byte) 9000);
    }

    private static void sheetBadAheadOfSize() {
        PrisonShops x = new PrisonShops();
        Due.is("40: no sort 3, n below 0", x.sheet(0, 3, -1), BAD);
        Due.is("40: no sort -2, n below 0", x.sheet(0, -2, -1), BAD);
        Due.is("40: no SHEET 4, n below 0", x.sheet(4, 0, -1), BAD);
        Due.is("40: no SHEET -1, n below 0", x.sheet(-1, 0, -1), BAD);
    }

    private static void sheetMissingOfAnyN() {
        PrisonShops x = new PrisonShops();
        for (int n : new int[] {LEAST, -1, 0, 24, 25, MOST}) {
            x.sheet(2, LONGS, 3);
            Due.is("40: sort -1: MISSING, n any", x.sheet(2, MISSING, n), 0);
            Due.is("40: it is MISSING", x.mark(2, 0, 1), NOTHING);
        }
        Due.is("40: MISSING again", x.sheet(2, MISSING, 1), 0);
    }

    private static void sheetAll0Anew() {
        PrisonShops x = new PrisonShops();
        for (int sort = 0; sort < 3; sort++) {
            x.sheet(1, sort, 24);
            for (int place = 0; place < 24; place++) {
                Due.is("40: all 0", x.grow(1, place, 0), 0);
                x.mark(1, place, place + 1);
            }
        }
        x.sheet(1, MISSING, 0);
        x.sheet(1, LONGS, 24);
        Due.is("40: all 0 behind MISSING", x.grow(1, 23, 0), 0);
        x.mark(1, 0, 5);
        x.sheet(1, LONGS, 24);
        Due.is("40: all 0 as it becomes the same", x.grow(1, 0, 0), 0);
        x.sheet(0, LONGS, 24);
        x.mark(0, 23, 5);
        x.sheet(1, LONGS, 24);
        Due.is("40: another SHEET stays", x.odd(23), 1);
    }

    private static void sheetsAreMissingAtFirst() {
        PrisonShops x = new PrisonShops();
        for (int sheet = 0; sheet < 4; sheet++) {
            Due.is("40: MISSING (at first)", x.mark(sheet, 0, 1), NOTHING);
        }
        Due.is("40: none has a place", x.odd(0), NONE);
    }

    private static void marks(int sort, int[] told, int[] due) {
        PrisonShops x = new PrisonShops();
        x.sheet(0, sort, 2);
        for (int i = 0; i < told.length; i++) {
            Due.is("41: " + told[i] + " in sort " + sort, x.mark(0, i % 2, told[i]), due[i]);
        }
    }

    private static void markOfBytes() {
        marks(BYTES, new int[] {127, 128, 255, 256, -128, -129, -1, MOST, LEAST},
            new int[] {127, -128, -1, 0, -128, 127, -1, -1, 0});
    }

    private static void markOfShorts() {
        marks(SHORTS, new int[] {32767, 32768, 65535, 65536, -32768, -32769, -1, MOST, LEAST},
            new int[] {32767, -32768, -1, 0, -32768, 32767, -1, -1, 0});
    }

    private static void markOfLongs() {
        marks(LONGS, new int[] {0, -1, MOST, LEAST}, new int[] {0, -1, MOST, LEAST});
        PrisonShops x = new PrisonShops();
        x.sheet(0, LONGS, 1);
        x.grow(0, 0, MOST);
        x.grow(0, 0, MOST);
        x.mark(0, 0, -1);
        x.sheet(1, SHORTS, 1);
        x.mark(1, 0, -1);
        Due.is("41: of longs v, below 0 too", x.odd(0), 0);
    }

    private static void refusedPlaces(String what, java.util.function.IntBinaryOperator call) {
        for (int sheet : new int[] {LEAST, NONE, -1, 4, MOST}) {
            Due.is(what + ": no SHEET " + sheet, call.applyAsInt(sheet, 0), BAD);
            Due.is(what + ": BAD stands ahead of INDEX", call.applyAsInt(sheet, -1), BAD);
        }
        Due.is(what + ": NOTHING", call.applyAsInt(3, 0), NOTHING);
        Due.is(what + ": NOTHING stands ahead of INDEX", call.applyAsInt(3, -1), NOTHING);
        Due.is(what + ": NOTHING stands ahead of INDEX above", call.applyAsInt(3, 24), NOTHING);
        for (int place : new int[] {LEAST, -1, 2, 24, MOST}) {
            Due.is(what + ": INDEX: no place " + place, call.applyAsInt(0, place), INDEX);
        }
        Due.is(what + ": INDEX: no place at all", call.applyAsInt(1, 0), INDEX);
    }

    private static PrisonShops twoPlacesAndNone() {
        PrisonShops x = new PrisonShops();
        x.sheet(0, BYTES, 2);
        x.sheet(1, LONGS, 0);
        return x;
    }

    private static void markBadAheadOfNothingAheadOfIndex() {
        PrisonShops x = twoPlacesAndNone();
        refusedPlaces("41", (sheet, place) -> x.mark(sheet, place, 1));
        Due.is("41: nothing changed", x.grow(0, 0, 0) + x.grow(0, 1, 0), 0);
    }

    private static void growOfBytes() {
        PrisonShops x = new PrisonShops();
        x.sheet(0, BYTES, 2);
        x.mark(0, 0, -1);
        Due.is("42: -1000 in 8 bits", x.grow(0, 0, 0), (byte) -1000);
        x.mark(0, 0, 127);
        Due.is("42: 127000 and MOST in 8 bits", x.grow(0, 0, MOST), (byte) (127000L + MOST));
        x.mark(0, 0, 0);
        Due.is("42: v alone", x.grow(0, 0, 128), -128);
        Due.is("42: its other place stays", x.grow(0, 1, 0), 0);
    }

    private static void growOfShorts() {
        PrisonShops x = new PrisonShops();
        x.sheet(0, SHORTS, 2);
        x.mark(0, 1, -1);
        Due.is("42: -1000 in 16 bits", x.grow(0, 1, 0), -1000);
        Due.is("42: -1000000 in 16 bits", x.grow(0, 1, 0), (short) -1000000);
        x.mark(0, 1, 32767);
        Due.is("42: 32767000 and LEAST in 16 bits", x.grow(0, 1, LEAST), (short) 32767000);
    }

    private static void growOfLongsWraps() {
        PrisonShops x = new PrisonShops();
        x.sheet(0, LONGS, 1);
        long due = 0;
        for (int i = 0; i < 12; i++) {
            int v = i % 2 == 0 ? MOST : LEAST;
            due = due * 1000 + v;
            Due.is("42: longs wrapping: its lowest 32 bits", x.grow(0, 0, v), (int) due);
        }
        x.mark(0, 0, 5);
        Due.is("42: 5000 and -1", x.grow(0, 0, -1), 4999);
        Due.is("42: 4999000", x.grow(0, 0, 0), 4999000);
        Due.is("42: 4999000000, its lowest 32 bits", x.grow(0, 0, 0), (int) 4999000000L);
        Due.is("42: it is kept as a long", x.grow(0, 0, 0), (int) 4999000000000L);
    }

    private static void growBadAheadOfNothingAheadOfIndex() {
        PrisonShops x = twoPlacesAndNone();
        refusedPlaces("42", (sheet, place) -> x.grow(sheet, place, 1));
        Due.is("42: nothing changed", x.grow(0, 0, 0) + x.grow(0, 1, 0), 0);
    }

    /** A SHEET whose places are 1, 2, 3 and so on. */
    private static void numbered(PrisonShops x, int sheet, int sort, int n) {
        x.sheet(sheet, sort, n);
        for (int place = 0; place < n; place++) {
            x.mark(sheet, place, place + 1);
        }
    }

    /** Whether the places of SHEET 0 are as due; the others are gone then. */
    private static void places(String what, PrisonShops x, int... due) {
        x.sheet(1, MISSING, 0);
        x.sheet(2, MISSING, 0);
        x.sheet(3, LONGS, due.length);
        for (int place = 0; place < due.length; place++) {
            x.mark(3, place, due[place]);
            Due.is(what + ": place " + place, x.odd(place), 0);
        }
        Due.is(what + ": no place more", x.odd(due.length), NONE);
    }

    private static void copyOfAll() {
        PrisonShops x = new PrisonShops();
        numbered(x, 1, LONGS, 24);
        x.sheet(0, LONGS, 24);
        Due.is("43: so many", x.copy(1, 0, 0, 0, 24), 24);
        Due.is("43: 25", x.copy(1, 0, 0, 0, 25), INDEX);
        for (int place = 0; place < 24; place++) {
            Due.is("43: as they were: place " + place, x.grow(0, place, 0), 1000 * (place + 1));
            Due.is("43: and stay: place " + place, x.grow(1, place, 0), 1000 * (place + 1));
        }
    }

    private static void copyOfNone() {
        PrisonShops x = new PrisonShops();
        numbered(x, 0, BYTES, 3);
        x.sheet(1, BYTES, 0);
        Due.is("43: none", x.copy(0, 0, 0, 2, 0), 0);
        Due.is("43: none, right behind the last one", x.copy(0, 3, 0, 3, 0), 0);
        Due.is("43: none, farther off", x.copy(0, 4, 0, 0, 0), INDEX);
        Due.is("43: none, to farther off", x.copy(0, 0, 0, 4, 0), INDEX);
        Due.is("43: none of no place", x.copy(1, 0, 1, 0, 0), 0);
        Due.is("43: one of no place", x.copy(1, 0, 0, 0, 1), INDEX);
        Due.is("43: one to no place", x.copy(0, 0, 1, 0, 1), INDEX);
        places("43: nothing changed", x, 1, 2, 3);
    }

    private static void copyToTheSameAsTheyWere() {
        PrisonShops x = new PrisonShops();
        numbered(x, 0, SHORTS, 6);
        x.copy(0, 0, 0, 2, 4);
        places("43: on in the same", x, 1, 2, 1, 2, 3, 4);
        numbered(x, 0, SHORTS, 6);
        x.copy(0, 2, 0, 0, 4);
        places("43: back in the same", x, 3, 4, 5, 6, 5, 6);
        numbered(x, 0, SHORTS, 6);
        x.copy(0, 1, 0, 1, 5);
        places("43: to where they are", x, 1, 2, 3, 4, 5, 6);
    }

    private static void copyIndex() {
        PrisonShops x = new PrisonShops();
        numbered(x, 0, BYTES, 3);
        numbered(x, 1, BYTES, 5);
        int[][] refused = {{0, 0, 0, 0, 4}, {0, 3, 0, 0, 1}, {0, 2, 1, 0, 2}, {1, 0, 0, 0, 4}, {1, 0, 0, 3, 1}, {1, 0, 0, 2, 2},
            {0, -1, 1, 0, 1}, {0, 0, 1, -1, 1}, {0, -1, 1, 0, 0}, {0, 0, 1, -1, 0}, {0, 0, 1, 0, -1}, {0, 1, 1, 1, -1},
            {0, MOST, 1, 0, 1}, {0, MOST, 1, 0, MOST}, {0, 1, 1, 0, MOST}, {0, 0, 1, MOST, 1}, {0, 0, 1, 1, MOST},
            {0, LEAST, 1, 0, 1}, {0, 0, 1, LEAST, 1}, {0, 0, 1, 0, LEAST}, {0, LEAST, 1, LEAST, LEAST}, {0, 1, 1, 1, LEAST}};
        for (int[] v : refused) {
            Due.is("43: from " + v[1] + " to " + v[3] + ", " + v[4] + " of them", x.copy(v[0], v[1], v[2], v[3], v[4]), INDEX);
        }
        Due.is("43: the last one to the last one", x.copy(1, 4, 0, 2, 1), 1);
        places("43: nothing else changed", x, 1, 2, 5);
    }

    private static void copyRefusalsInTheirOrder() {
        PrisonShops x = new PrisonShops();
        x.sheet(0, BYTES, 3);
        x.sheet(1, SHORTS, 3);
        for (int sheet : new int[] {LEAST, NONE, -1, 4, MOST}) {
            Due.is("43: from no SHEET " + sheet, x.copy(sheet, 0, 0, 0, 1), BAD);
            Due.is("43: to no SHEET " + sheet, x.copy(0, 0, sheet, 0, 1), BAD);
            Due.is("43: BAD stands ahead of NOTHING", x.copy(2, -1, sheet, -1, -1), BAD);
        }
        Due.is("43: NOTHING: from", x.copy(2, 0, 0, 0, 1), NOTHING);
        Due.is("43: NOTHING: to", x.copy(0, 0, 2, 0, 1), NOTHING);
        Due.is("43: NOTHING: both", x.copy(2, 0, 3, 0, 0), NOTHING);
        Due.is("43: NOTHING stands ahead of INDEX", x.copy(0, -1, 2, 9, -1), NOTHING);
        Due.is("43: KIND: not of one sort", x.copy(0, 0, 1, 0, 1), KIND);
        Due.is("43: KIND of none", x.copy(0, 0, 1, 0, 0), KIND);
        Due.is("43: KIND stands ahead of INDEX", x.copy(1, -1, 0, 9, -1), KIND);
    }

    private static void copyOfEachSort() {
        for (int from = 0; from < 3; from++) {
            for (int to = 0; to < 3; to++) {
                PrisonShops x = new PrisonShops();
                numbered(x, 1, from, 4);
                x.sheet(0, to, 4);
                Due.is("43: sort " + from + " to sort " + to, x.copy(1, 0, 0, 0, 2), from == to ? 2 : KIND);
                places("43: behind it", x, from == to ? 1 : 0, from == to ? 2 : 0, 0, 0);
            }
        }
        PrisonShops x = new PrisonShops();
        x.sheet(0, LONGS, 1);
        x.sheet(1, LONGS, 1);
        for (int i = 0; i < 4; i++) {
            x.grow(0, 0, MOST);
        }
        x.copy(0, 0, 1, 0, 1);
        Due.is("43: a long in all its width", x.odd(0), 0);
    }

    private static void oddBelow0() {
        PrisonShops x = new PrisonShops();
        Due.is("44: BAD: -1, where none has it", x.odd(-1), BAD);
        x.sheet(0, BYTES, 24);
        Due.is("44: BAD: -1", x.odd(-1), BAD);
        Due.is("44: BAD: the least", x.odd(LEAST), BAD);
        Due.is("44: place 0", x.odd(0), 0);
    }

    private static void oddOfNone() {
        PrisonShops x = new PrisonShops();
        Due.is("44: NONE: all are MISSING", x.odd(0), NONE);
        x.sheet(2, SHORTS, 0);
        Due.is("44: NONE: no place at all", x.odd(0), NONE);
        x.sheet(2, SHORTS, 24);
        Due.is("44: the last place", x.odd(23), 0);
        Due.is("44: NONE: behind it", x.odd(24), NONE);
        Due.is("44: NONE: in no SHEET, whatever the next ones have", x.odd(25), NONE);
        Due.is("44: NONE: the most", x.odd(MOST), NONE);
        x.sheet(2, MISSING, 0);
        Due.is("44: NONE again", x.odd(23), NONE);
    }

    private static void oddFromTheFirstThatHasIt() {
        PrisonShops x = new PrisonShops();
        x.sheet(0, BYTES, 1);
        x.sheet(1, BYTES, 2);
        x.sheet(2, BYTES, 3);
        x.sheet(3, BYTES, 3);
        x.mark(1, 1, 5);
        Due.is("44: two differ from SHEET 1", x.odd(1), 2);
        x.mark(3, 1, 5);
        Due.is("44: one differs from SHEET 1", x.odd(1), 1);
        x.mark(0, 0, 1);
        Due.is("44: three differ from SHEET 0", x.odd(0), 3);
        x.sheet(0, MISSING, 0);
        Due.is("44: now SHEET 1 is the first", x.odd(0), 0);
        x.mark(3, 2, 1);
        Due.is("44: one of two", x.odd(2), 1);
    }

    private static void oddOfSeveralSorts() {
        PrisonShops x = new PrisonShops();
        for (int sheet = 0; sheet < 3; sheet++) {
            x.sheet(sheet, sheet, 1);
            x.mark(sheet, 0, -2);
        }
        Due.is("44: the same number in each sort", x.odd(0), 0);
        x.mark(1, 0, 254);
        Due.is("44: 254 is not -2", x.odd(0), 1);
        x.mark(0, 0, 254);
        Due.is("44: a byte of 254 is -2", x.odd(0), 1);
    }

    private static void oddOfWideLongs() {
        PrisonShops x = new PrisonShops();
        x.sheet(0, LONGS, 1);
        x.sheet(1, LONGS, 1);
        long v = 0;
        for (int told : new int[] {4, 294, 967, 296}) {
            x.grow(0, 0, told);
            v = v * 1000 + told;
        }
        Due.is("44: 4294967296 has 0 in its lowest 32 bits", (int) v, 0);
        Due.is("44: but it is not 0", x.odd(0), 1);
    }

    private static void tellSixtyAtMost() {
        PrisonShops x = new PrisonShops();
        for (int i = 1; i <= 60; i++) {
            Due.is("45: how many", x.tell(i % 2 == 0 ? MOST : LEAST), i);
        }
        Due.is("45: FULL: 60 wait", x.tell(0), FULL);
        Due.is("45: 60", x.count(8), 60);
        x.check(0);
        Due.is("45: one again", x.tell(0), 1);
    }

    /** One HAND earns and makes 5 a DAY, from an image on. */
    private static PrisonShops kept() {
        PrisonShops x = new PrisonShops();
        x.shop(1, 3, 0);
        x.hand(0, 0, 999);
        x.put(0, 0);
        x.keep();
        return x;
    }

    private static void tellAll(PrisonShops x, int... numbers) {
        for (int v : numbers) {
            x.tell(v);
        }
    }

    private static void checkIs1To30() {
        PrisonShops x = kept();
        for (int n : new int[] {LEAST, -1, 0, 31, MOST}) {
            x.tell(5);
            Due.is("46: no check of " + n, x.check(n), BAD);
            Due.is("46: none wait then", x.count(8), 0);
        }
        Due.is("46: one DAY", x.check(1), 1);
        Due.is("46: thirty DAYS", x.check(30), 1);
    }

    private static void checkWithoutAnImage() {
        PrisonShops x = new PrisonShops();
        x.tell(0);
        Due.is("46: NO: there is no IMAGE", x.check(1), NO);
        Due.is("46: none wait then", x.count(8), 0);
        x.tell(0);
        Due.is("46: BAD stands ahead of NO", x.check(31), BAD);
        Due.is("46: none wait then, either", x.count(8), 0);
        x.keep();
        tellAll(x, 0, 0);
        Due.is("46: nobody earns nothing", x.check(1), 0);
    }

    private static void checkUsesTheNumbersUp() {
        PrisonShops x = kept();
        tellAll(x, 5, 5);
        Due.is("46: right", x.check(1), 0);
        Due.is("46: none wait then", x.count(8), 0);
        Due.is("46: so they are missing", x.check(1), 1);
        tellAll(x, 5, 6);
        Due.is("46: wrong", x.check(1), 2);
        Due.is("46: none wait, right or wrong", x.count(8), 0);
    }

    private static void checkMissing() {
        PrisonShops x = kept();
        Due.is("46: all missing", x.check(3), 1);
        x.tell(5);
        Due.is("46: all but one", x.check(3), 2);
        tellAll(x, 5, 5, 10, 10, 15);
        Due.is("46: the last one", x.check(3), 6);
    }

    private static void checkOneTooMany() {
        PrisonShops x = kept();
        tellAll(x, 5, 5, 10);
        Due.is("46: one too many", x.check(1), 3);
        tellAll(x, 5, 5, 10, 10);
        Due.is("46: two too many", x.check(1), 3);
        tellAll(x, 5, 4, 10, 10);
        Due.is("46: the first that is not stands ahead of it", x.check(1), 2);
    }

    private static void checkFirstThatIsNot() {
        int[] due = {5, 5, 10, 10, 15, 15};
        PrisonShops x = kept();
        for (int wrong = 0; wrong < due.length; wrong++) {
            for (int place = 0; place < due.length; place++) {
                x.tell(place == wrong || place == wrong + 2 ? due[place] + 1 : due[place]);
            }
            Due.is("46: 1 and how many stand right ahead of the first that is not", x.check(3), 1 + wrong);
        }
    }

    private static void checkOfSixty() {
        PrisonShops x = kept();
        for (int n = 29; n <= 30; n++) {
            for (int skill = 0, sum = 0, day = 1; day <= 30; day++) {
                sum += 5 + skill;
                skill = day / 10;
                tellAll(x, sum, sum);
            }
            Due.is("46: sixty numbers for " + n + " DAYS", x.check(n), n == 30 ? 0 : 59);
        }
    }

    private static void checkOfTheImageNotOfNow() {
        PrisonShops x = kept();
        x.rate(0, 90);
        x.put(0, NONE);
        x.run(9);
        x.shop(1, 1, 1);
        tellAll(x, 5, 5, 10, 10);
        Due.is("46: from THE IMAGE on (nobody doing anything)", x.check(2), 0);
        x.keep();
        tellAll(x, 0, 0);
        Due.is("46: of the image that is kept now", x.check(1), 0);
    }

    private static void checkChangesNothing() {
        PrisonShops x = kept();
        x.run(3);
        x.check(30);
        Due.is("46: the DAY is as it was", x.count(10), 3);
        Due.is("46: EARNED, too", x.is(0, 10), 15);
        Due.is("46: THE IMAGE, too", x.back(), 0);
        tellAll(x, 5, 5);
        Due.is("46: and its DAYS", x.check(1), 0);
    }

    private static void keepIsTheDay() {
        PrisonShops x = new PrisonShops();
        Due.is("47: DAY 0", x.keep(), 0);
        for (int i = 0; i < 16; i++) {
            x.run(60);
        }
        x.run(39);
        Due.is("47: DAY 999", x.keep(), 999);
        Due.is("47: back to it", x.back(), 999);
    }

    private static void keepAgain() {
        PrisonShops x = kept();
        x.run(2);
        Due.is("47: another IMAGE", x.keep(), 2);
        x.run(2);
        Due.is("47: all becomes as it is", x.back(), 2);
        Due.is("47: TURNS", x.is(0, 6), 2);
    }

    private static void backWithoutAnImage() {
        PrisonShops x = new PrisonShops();
        x.shop(1, 1, 1);
        Due.is("48: NO: there is none", x.back(), NO);
        Due.is("48: the SHOP stays", x.count(0), 1);
    }

    private static void backAgainAndAgain() {
        PrisonShops x = kept();
        for (int i = 1; i < 4; i++) {
            x.run(10 * i);
            x.lose(0, i);
            Due.is("48: again and again", x.back(), 0);
            Due.row("48: the HAND", what -> x.is(0, what), 0, 0, 999, 0, 0, 0, 0, 0, 0, NONE, 0, 0);
            Due.is("48: no EVENT", x.count(7), 0);
        }
        Due.is("48: as it is already", x.back(), 0);
    }

    private static void backToAnEmptyOne() {
        PrisonShops x = new PrisonShops();
        x.keep();
        for (int i = 0; i < 3; i++) {
            x.shop(5, 3, 3);
        }
        for (int i = 0; i < 10; i++) {
            x.hand(3, 3, 1);
        }
        for (int i = 0; i < 30; i++) {
            x.thing(1, 2, 0, 0);
        }
        for (int i = 0; i < 40; i++) {
            x.lose(9, 99);
        }
        for (int i = 0; i < 12; i++) {
            Due.text(x, 0, "pay 1");
        }
        x.run(60);
        x.back();
        Due.row("48: all is as a new object", x::count, 0, 0, 0, 0, 0, 0, 0, 0, 0, 0, 0, 0, 0, 0);
        Due.is("48: SHOP 0 comes anew", x.shop(1, 0, 0), 0);
        Due.row("48: as a new one", what -> x.has(0, what), 1, 0, 0, 5, 0, 0, 0, 0, 0, 0, 0);
        Due.is("48: HAND 0 comes anew", x.hand(0, 0, 9), 0);
        Due.row("48: as a new one, too", what -> x.is(0, what), 0, 0, 9, 0, 0, 0, 0, 0, NONE, NONE, 0, 0);
        Due.is("48: EVENT 0 comes anew", x.lose(0, 1), 0);
        Due.is("48: TEXT 0 comes anew", Due.text(x, 0, "pay 2"), 0);
        Due.is("48: END", x.end(0, 0), 10);
    }

    private static void backLeavesSheetsNumbersTape() {
        PrisonShops x = new PrisonShops();
        x.sheet(0, LONGS, 1);
        x.mark(0, 0, 7);
        x.tell(1);
        x.feed(1, 2, 3);
        x.keep();
        x.mark(0, 0, 8);
        x.sheet(1, SHORTS, 2);
        x.tell(2);
        x.trim(5);
        x.back();
        Due.is("48: all but SHEETS", x.grow(0, 0, 0), 8000);
        Due.is("48: a SHEET that came is there", x.mark(1, 1, 3), 3);
        Due.is("48: numbers that wait", x.count(8), 2);
        Due.is("48: THE TAPE", x.count(9), 5);
    }

    private static void backTakesTheSeed() {
        PrisonShops x = hands(9);
        x.seed(4711);
        x.keep();
        int one = x.search(3);
        x.seed(8);
        x.back();
        Due.is("48: the SEED", x.count(11), 4711);
        Due.is("48: the same are drawn", x.search(3), one);
    }

    /** What is MISSED at a BELL, counted for EARN and BARRED can be asked by what comes of it only. */
    private static void backTakesWhatIsNotSeen() {
        PrisonShops x = kept();
        x.hand(0, 0, 999);
        x.thing(1, 0, 0, 0);
        x.thing(1, 0, 0, 0);
        Due.text(x, 0, "days w");
        x.bar(0, 1, 1);
        x.run(4);
        x.earn(0);
        x.run(2);
        x.bell(0, 2);
        x.keep();
        x.bell(0, 1);
        x.earn(0);
        x.bar(0, 1, 0);
        x.run(5);
        x.back();
        Due.is("48: two TURNS to count", x.earn(0), 2);
        Due.is("48: BARRED", x.bar(0, 1, 1), 1);
        x.bell(0, 0);
        Due.is("48: not seen at the BELL ahead", x.told(0, 4), 2);
        Due.is("48: seen at the BELL ahead", x.told(1, 4), 0);
    }

    private static void countIs0To13() {
        PrisonShops x = kept();
        for (int what : new int[] {LEAST, NONE, -1, 14, MOST}) {
            Due.is("49: no what " + what, x.count(what), BAD);
        }
    }

    private static void countOfEach() {
        PrisonShops x = new PrisonShops();
        Due.row("49: nothing", x::count, 0, 0, 0, 0, 0, 0, 0, 0, 0, 0, 0, 0, 0, 0);
        x.shop(2, 3, 0);
        x.hand(0, 0, 1);
        x.hand(0, 0, 99);
        x.hand(0, 0, 99);
        x.put(0, 0);
        x.put(1, 0);
        x.thing(5, 0, 10, 0);
        x.thing(5, 0, 9999, 0);
        for (int kind = 0; kind < 5; kind++) {
            x.thing(kind, 0, 0, 0);
        }
        x.out(3, 0);
        x.out(4, 1);
        x.lose(1, 3);
        x.run(2);
        Due.text(x, 0, "pay 1");
        x.tell(9);
        x.feed(0, 0, 0);
        x.trim(7);
        x.seed(65535);
        Due.row("49: how many", x::count, 1, 3, 1, 1, 7, 1, 1, 1, 1, 7, 2, 65535, 1, 1);
    }
}
