import java.util.ArrayList;
import java.util.Arrays;
import java.util.List;

/**
 * Of all promises: "A call that is refused answers one of BAD, NO, FULL, or a FINDING, of several the one that stands first with it, and
 * changes nothing (but the tape and the numbers that wait, where told)": each refusal of each promise, on one of two
 * objects that were made the same way; all that can be asked of both behind it is the same. So it is behind a call that asks.
 */
public final class RefusalsTest {
    private static final int BAD = PrisonShops.BAD, NO = PrisonShops.NO, FULL = PrisonShops.FULL, NONE = PrisonShops.NONE;
    private static final int NOTHING = PrisonShops.NOTHING, KIND = PrisonShops.KIND, INDEX = PrisonShops.INDEX;
    private static final int SIZE = PrisonShops.SIZE;
    private static final int LEAST = Integer.MIN_VALUE, MOST = Integer.MAX_VALUE;
    private static final int PARTS_OF_ALL = 5;
    private static final int[] NO_INDEX = {LEAST, NONE, BAD, -1, 5, 10, MOST};

    /** How an object is made. */
    private enum Made { SOME, ALL, NEW }

    public static void main(String[] args) {
        shopsAndHands();
        things();
        texts();
        payAndDays();
        searchesAndCounts();
        images();
        whereAllIsFull();
        onANewObject();
        askingChangesNothing();
        Due.end();
    }

    private static PrisonShops made(Made how) {
        switch (how) {
            case SOME: return some();
            case ALL: return all();
            default: return new PrisonShops();
        }
    }

    /** Something of each: HAND 3 is FREE, HAND 2 has COURT on this DAY, SHOP 1 is LOCKED and SHUT, TOOL 1 is LOST, and so on. */
    static PrisonShops some() {
        PrisonShops x = new PrisonShops();
        x.shop(3, 2, 0);
        x.shop(1, 3, 1);
        int[] risks = {0, 1, 2, 0, 3};
        for (int i = 0; i < risks.length; i++) {
            x.hand(risks[i], i == 4 ? 3 : 0, i == 3 ? 2 : 900);
        }
        x.put(0, 0);
        x.put(1, 0);
        x.put(3, 0);
        x.put(4, 1);
        x.bar(0, 2, 1);
        x.thing(1, 0, 0, 0);
        x.thing(2, 0, 2, 0);
        x.thing(3, 0, 0, 0);
        x.thing(1, 1, 0, 0);
        x.thing(0, 0, 0, 0);
        x.thing(4, 0, 50, 0);
        x.thing(5, 0, 20, 1);
        x.thing(5, 0, 9000, 1);
        x.out(0, 0);
        x.bell(0, 2);
        x.bell(0, 4);
        x.bell(0, 0);
        x.bell(0, 4);
        Due.text(x, 0, "days w");
        Due.text(x, 0, "save 3");
        x.be(0, 3, 40);
        x.lose(3, 1);
        x.run(2);
        x.keep();
        x.run(2);
        x.earn(0);
        x.lose(1, 5);
        x.lose(1, 6);
        x.appeal(2);
        x.run(1);
        x.be(2, 9, 5);
        x.bell(1, 0);
        x.lock(1, 3);
        x.seed(77);
        x.sheet(0, 0, 3);
        x.sheet(1, 1, 2);
        x.sheet(3, 2, 0);
        x.mark(0, 0, 5);
        x.mark(1, 0, 5);
        x.tell(15);
        x.tell(15);
        Due.feed(x, "pay n*2");
        return x;
    }

    /** As much as there can be of all, on DAY 999. */
    static PrisonShops all() {
        PrisonShops x = new PrisonShops();
        for (int i = 0; i < 3; i++) {
            x.shop(3, 3, 0);
        }
        for (int i = 0; i < 10; i++) {
            x.hand(0, 0, i == 9 ? 1 : 999);
        }
        x.fill();
        for (int i = 0; i < 30; i++) {
            x.thing(i == 0 ? 5 : 1, 0, i == 0 ? 9999 : 0, 0);
        }
        for (int i = 0; i < 12; i++) {
            Due.text(x, i, "pay n");
        }
        for (int i = 0; i < 40; i++) {
            x.lose(0, 1);
        }
        for (int i = 0; i < 16; i++) {
            x.run(60);
        }
        x.run(39);
        for (int i = 0; i < 60; i++) {
            x.tell(i);
        }
        for (int i = 0; i < 8; i++) {
            x.feed('p' << 24 | 'a' << 16 | 'y' << 8 | 'n', 1, 2);
        }
        return x;
    }

    /** A refused call, asked of one of two; the other has what is told that the call changes all the same. */
    private static void refused(Made how, int due, String name, int... told) {
        int answer = Calls.make(made(how), Calls.numberOf(name), Arrays.copyOf(told, 5));
        Due.is(name + Arrays.toString(told) + " of " + how, answer, due);
        changesNothing(how, name, told);
    }

    private static void changesNothing(Made how, String name, int... told) {
        int[] v = Arrays.copyOf(told, 5);
        String call = name + Arrays.toString(told) + " of " + how;
        for (int part = 0; part < PARTS_OF_ALL; part++) {
            PrisonShops one = made(how);
            PrisonShops other = made(how);
            Calls.make(one, Calls.numberOf(name), v);
            if (name.equals("text")) {
                other.trim(0);
            }
            boolean numbersGo = name.equals("check");
            List<Integer> changed = ask(one, part, numbersGo);
            List<Integer> same = ask(other, part, numbersGo);
            for (int i = 0; i < same.size(); i++) {
                Due.is(call + ", part " + part + ", answer " + i, changed.get(i), same.get(i));
            }
        }
    }

    /** A part of all that can be asked: no object is asked more than 512 calls. */
    private static List<Integer> ask(PrisonShops x, int part, boolean numbersGo) {
        List<Integer> answers = new ArrayList<>();
        switch (part) {
            case 0: askShopsHandsCounts(x, answers, numbersGo); break;
            case 1: askThings(x, answers); break;
            case 2: askTextsEvents(x, answers); break;
            case 3: askWhatIsNotSeen(x, answers); break;
            default: askImageAndTape(x, answers);
        }
        return answers;
    }

    private static void askShopsHandsCounts(PrisonShops x, List<Integer> answers, boolean numbersGo) {
        for (int what = 0; what < 12; what++) {
            for (int i = 0; i < 3; i++) {
                answers.add(x.has(i, what));
            }
            for (int i = 0; i < 10; i++) {
                answers.add(x.is(i, what));
            }
            answers.add(x.filling(what));
        }
        for (int what = 0; what < 14; what++) {
            answers.add(numbersGo && what == 8 ? 0 : x.count(what));
        }
        answers.add(x.never());
    }

    private static void askThings(PrisonShops x, List<Integer> answers) {
        for (int i = 0; i < 30; i++) {
            for (int what = 0; what < 7; what++) {
                answers.add(x.told(i, what));
            }
        }
        for (int i = 0; i < 3; i++) {
            answers.add(x.who(i));
            answers.add(x.foretold(i));
        }
    }

    private static void askTextsEvents(PrisonShops x, List<Integer> answers) {
        for (int what = 0; what < 4; what++) {
            for (int i = 0; i < 40; i++) {
                answers.add(x.event(i, what));
            }
            for (int i = 0; i < 12; i++) {
                answers.add(x.of(i, what));
            }
        }
        for (int i = 0; i < 6; i++) {
            answers.add(x.why(i));
            answers.add(x.rules(i, 7, 8, 9));
        }
        for (int i = 0; i < 10; i++) {
            answers.add(x.end(i, 0));
            answers.add(x.end(i, 999));
            answers.add(x.takes(i, 1));
        }
    }

    /** What only shows by what comes of it: BARRED, missed at a BELL, TURNS counted, the places of SHEETS. */
    private static void askWhatIsNotSeen(PrisonShops x, List<Integer> answers) {
        for (int i = 0; i < 4; i++) {
            answers.add(x.odd(i));
        }
        for (int i = 0; i < 4; i++) {
            for (int place = 0; place < 3; place++) {
                answers.add(x.grow(i, place, 1));
            }
        }
        for (int i = 0; i < 5; i++) {
            for (int j = 0; j < i; j++) {
                answers.add(x.bar(i, j, 0));
            }
            answers.add(x.earn(i));
        }
        for (int i = 0; i < 3; i++) {
            answers.add(x.bell(i, 0));
        }
        for (int i = 0; i < 30; i++) {
            answers.add(x.told(i, 4));
        }
        answers.add(x.search(3));
        answers.add(x.count(11));
        answers.add(x.run(1));
        for (int i = 0; i < 10; i++) {
            answers.add(x.is(i, 10));
        }
    }

    private static void askImageAndTape(PrisonShops x, List<Integer> answers) {
        answers.add(x.text(0));
        answers.add(x.rules(0, 5, 0, 0));
        x.check(0);
        for (int v : new int[] {20, 30, 40}) {
            x.tell(v);
        }
        answers.add(x.check(2));
        answers.add(x.back());
        for (int what = 0; what < 12; what++) {
            answers.add(x.is(0, what));
            answers.add(x.is(1, what));
            answers.add(x.has(0, what));
        }
        answers.add(x.count(11));
    }

    private static void shopsAndHands() {
        for (int v : new int[] {LEAST, 0, 6, MOST}) {
            refused(Made.SOME, BAD, "shop", v, 1, 1);
        }
        for (int v : new int[] {LEAST, -1, 4, MOST}) {
            refused(Made.SOME, BAD, "shop", 1, v, 1);
            refused(Made.SOME, BAD, "shop", 1, 1, v);
            refused(Made.SOME, BAD, "hand", v, 1, 9);
            refused(Made.SOME, BAD, "hand", 1, v, 9);
            refused(Made.SOME, BAD, "be", 0, 0, v);
            refused(Made.SOME, BAD, "be", 0, 1, v);
        }
        for (int v : new int[] {LEAST, 0, 1000, MOST}) {
            refused(Made.SOME, BAD, "hand", 1, 1, v);
        }
        for (int v : new int[] {LEAST, -1, 100, MOST}) {
            refused(Made.SOME, BAD, "rate", 0, v);
            refused(Made.SOME, BAD, "lock", 0, v);
        }
        for (int v : NO_INDEX) {
            refused(Made.SOME, BAD, "rate", v, 1);
            refused(Made.SOME, BAD, "lock", v, 1);
            refused(Made.SOME, BAD, "be", v, 0, 1);
            refused(Made.SOME, BAD, "bar", v, 0, 1);
            refused(Made.SOME, BAD, "bar", 0, v, 1);
            refused(Made.SOME, BAD, "put", v, 0);
            refused(Made.SOME, BAD, "put", v, NONE);
        }
        for (int what : new int[] {-1, 2, 4, 5, 6, 7, 8, 10, 11, 12}) {
            refused(Made.SOME, BAD, "be", 0, what, 3);
        }
        refused(Made.SOME, BAD, "be", 0, 3, -1);
        refused(Made.SOME, BAD, "be", 0, 3, 10000);
        refused(Made.SOME, BAD, "be", 0, 9, 4);
        refused(Made.SOME, BAD, "be", 0, 9, 1000);
        refused(Made.SOME, BAD, "be", 0, 0, NONE);
        refused(Made.SOME, BAD, "bar", 1, 1, 1);
        refused(Made.SOME, BAD, "bar", 0, 1, 2);
        refused(Made.SOME, BAD, "bar", 0, 2, -1);
        refused(Made.SOME, BAD, "put", 0, 2);
        refused(Made.SOME, BAD, "put", 0, -1);
        refused(Made.SOME, NO, "put", 3, 0);
        refused(Made.SOME, NO, "put", 4, 0);
        refused(Made.SOME, NO, "put", 4, 1);
        refused(Made.SOME, NO, "put", 0, 1);
        refused(Made.SOME, NO, "put", 2, 0);
    }

    private static void things() {
        for (int v : new int[] {LEAST, -1, 6, MOST}) {
            refused(Made.SOME, BAD, "thing", v, 0, 0, 0);
        }
        refused(Made.SOME, BAD, "thing", 1, 2, 0, 0);
        refused(Made.SOME, BAD, "thing", 1, -1, 0, 0);
        refused(Made.SOME, BAD, "thing", 1, 0, 1, 0);
        refused(Made.SOME, BAD, "thing", 2, 0, 4, 0);
        refused(Made.SOME, BAD, "thing", 3, 0, -1, 0);
        refused(Made.SOME, BAD, "thing", 4, 0, 10000, 0);
        refused(Made.SOME, BAD, "thing", 5, 0, 0, 0);
        refused(Made.SOME, BAD, "thing", 5, 0, 1, 1000);
        refused(Made.SOME, BAD, "thing", 4, 0, 1, 1);
        for (int v : new int[] {LEAST, -1, 8, 30, MOST}) {
            refused(Made.SOME, BAD, "told", v, 0);
            refused(Made.SOME, BAD, "as", v, 0);
            refused(Made.SOME, BAD, "out", v, 0);
            refused(Made.SOME, BAD, "hang", v);
            refused(Made.SOME, BAD, "late", v);
        }
        refused(Made.SOME, BAD, "as", 0, 6);
        refused(Made.SOME, KIND, "as", 0, 2);
        refused(Made.SOME, BAD, "out", 2, 5);
        refused(Made.SOME, KIND, "out", 4, 0);
        refused(Made.SOME, KIND, "out", 6, 2);
        refused(Made.SOME, NO, "out", 0, 0);
        refused(Made.SOME, NO, "out", 1, 0);
        refused(Made.SOME, NO, "out", 2, 1);
        refused(Made.SOME, NO, "out", 2, 4);
        refused(Made.SOME, NO, "out", 3, 4);
        refused(Made.SOME, KIND, "hang", 5);
        refused(Made.SOME, NO, "hang", 2);
        refused(Made.SOME, KIND, "late", 5);
        refused(Made.SOME, BAD, "bell", 0, 8);
        refused(Made.SOME, BAD, "bell", 0, -1);
        refused(Made.SOME, BAD, "bell", 2, 0);
        refused(Made.SOME, BAD, "who", 2);
        refused(Made.SOME, BAD, "foretold", 2);
    }

    private static void texts() {
        refused(Made.SOME, BAD, "trim", 8);
        refused(Made.SOME, BAD, "trim", -1);
        refused(Made.SOME, BAD, "text", -1);
        refused(Made.SOME, BAD, "text", 1000);
        refused(Made.NEW, -100, "text", 0);
        refused(Made.ALL, -100, "text", 0);
        refused(Made.SOME, BAD, "of", 2, 0);
        refused(Made.SOME, BAD, "of", 0, 3);
        refused(Made.SOME, BAD, "why", 6);
        refused(Made.SOME, BAD, "rules", 6, 1, 1, 1);
        refused(Made.SOME, BAD, "rules", -1, 1, 1, 1);
    }

    private static void payAndDays() {
        for (int v : NO_INDEX) {
            refused(Made.SOME, BAD, "pay", v);
            refused(Made.SOME, BAD, "takes", v, 0);
            refused(Made.SOME, BAD, "earn", v);
            refused(Made.SOME, BAD, "lose", v, 1);
            refused(Made.SOME, BAD, "appeal", v);
            refused(Made.SOME, BAD, "event", v, 0);
            refused(Made.SOME, BAD, "end", v, 0);
        }
        refused(Made.SOME, NO, "pay", 3);
        refused(Made.SOME, NO, "takes", 3, 0);
        refused(Made.SOME, BAD, "takes", 3, 3);
        refused(Made.SOME, NO, "earn", 3);
        refused(Made.SOME, NO, "lose", 3, 1);
        refused(Made.SOME, BAD, "lose", 3, 0);
        refused(Made.SOME, BAD, "lose", 0, 0);
        refused(Made.SOME, BAD, "lose", 0, 100);
        refused(Made.SOME, NO, "appeal", 0);
        refused(Made.SOME, KIND, "appeal", 1);
        refused(Made.SOME, NO, "appeal", 2);
        refused(Made.SOME, BAD, "end", 0, 1000);
        refused(Made.SOME, BAD, "end", 0, -1);
        for (int v : new int[] {LEAST, -1, 0, 61, MOST}) {
            refused(Made.SOME, BAD, "run", v);
        }
    }

    private static void searchesAndCounts() {
        for (int v : new int[] {LEAST, -1, 65536, MOST}) {
            refused(Made.SOME, BAD, "seed", v);
        }
        for (int v : new int[] {LEAST, -1, 0, 11, MOST}) {
            refused(Made.SOME, BAD, "search", v);
        }
        for (int v : new int[] {LEAST, -1, 4, MOST}) {
            refused(Made.SOME, BAD, "sheet", v, 0, 1);
            refused(Made.SOME, BAD, "sheet", v, -1, 0);
            refused(Made.SOME, BAD, "mark", v, 0, 1);
            refused(Made.SOME, BAD, "grow", v, 0, 1);
            refused(Made.SOME, BAD, "copy", v, 0, 0, 0, 1);
            refused(Made.SOME, BAD, "copy", 0, 0, v, 0, 1);
        }
        refused(Made.SOME, BAD, "sheet", 0, 3, 1);
        refused(Made.SOME, BAD, "sheet", 0, -2, 1);
        refused(Made.SOME, BAD, "sheet", 0, 0, 25);
        refused(Made.SOME, SIZE, "sheet", 0, 0, -1);
        refused(Made.SOME, SIZE, "sheet", 2, 2, LEAST);
        for (String name : new String[] {"mark", "grow"}) {
            refused(Made.SOME, NOTHING, name, 2, 0, 1);
            refused(Made.SOME, INDEX, name, 0, 3, 1);
            refused(Made.SOME, INDEX, name, 0, -1, 1);
            refused(Made.SOME, INDEX, name, 3, 0, 1);
        }
        refused(Made.SOME, NOTHING, "copy", 2, 0, 0, 0, 1);
        refused(Made.SOME, NOTHING, "copy", 0, 0, 2, 0, 1);
        refused(Made.SOME, KIND, "copy", 0, 0, 1, 0, 1);
        refused(Made.SOME, INDEX, "copy", 0, 0, 0, 1, 3);
        refused(Made.SOME, INDEX, "copy", 0, 1, 0, 0, 3);
        refused(Made.SOME, INDEX, "copy", 0, 1, 0, 2, 2);
        refused(Made.SOME, INDEX, "copy", 0, 0, 0, 1, -1);
        refused(Made.SOME, BAD, "odd", -1);
        refused(Made.SOME, NONE, "odd", 3);
    }

    private static void images() {
        refused(Made.SOME, BAD, "check", 0);
        refused(Made.SOME, BAD, "check", 31);
        refused(Made.ALL, NO, "check", 30);
        refused(Made.ALL, BAD, "check", -1);
        refused(Made.ALL, NO, "back");
        refused(Made.SOME, BAD, "count", 14);
        refused(Made.SOME, BAD, "count", -1);
        refused(Made.SOME, BAD, "has", 0, 11);
        refused(Made.SOME, BAD, "is", 0, 12);
        refused(Made.SOME, BAD, "told", 0, 7);
        refused(Made.SOME, BAD, "may", 0, 2);
        refused(Made.SOME, BAD, "filling", 7);
        refused(Made.SOME, BAD, "filling", -1);
    }

    private static void whereAllIsFull() {
        refused(Made.ALL, FULL, "shop", 1, 1, 1);
        refused(Made.ALL, FULL, "hand", 1, 1, 1);
        refused(Made.ALL, FULL, "thing", 1, 0, 0, 0);
        refused(Made.ALL, FULL, "feed", 1, 2, 3);
        refused(Made.ALL, FULL, "earn", 0);
        refused(Made.ALL, FULL, "earn", 8);
        refused(Made.ALL, NO, "earn", 9);
        refused(Made.ALL, FULL, "lose", 0, 1);
        refused(Made.ALL, NO, "lose", 9, 1);
        refused(Made.ALL, FULL, "run", 1);
        refused(Made.ALL, FULL, "run", 60);
        refused(Made.ALL, FULL, "tell", 5);
        refused(Made.ALL, BAD, "text", 1000);
        refused(Made.ALL, BAD, "shop", 0, 1, 1);
        refused(Made.ALL, BAD, "hand", 4, 1, 1);
        refused(Made.ALL, BAD, "thing", 1, 0, 1, 0);
        refused(Made.ALL, BAD, "be", 0, 9, 998);
        PrisonShops x = all();
        x.trim(0);
        Due.feed(x, "pay n");
        Due.is("text of ALL", x.text(0), FULL);
        Due.is("THE TAPE behind it", x.count(9), 0);
        Due.is("TEXTS behind it", x.count(6), 12);
        Due.is("what counts behind it", x.why(0), 11);
    }

    private static void onANewObject() {
        String[] ofWhatIsNotThere = {"rate", "lock", "has", "is", "be", "bar", "may", "put", "told", "as", "out", "hang", "bell",
            "who", "late", "foretold", "of", "pay", "takes", "earn", "lose", "appeal", "event", "end"};
        for (String name : ofWhatIsNotThere) {
            refused(Made.NEW, BAD, name, 0, 1, 1);
        }
        refused(Made.NEW, BAD, "thing", 0, 0, 0, 0);
        refused(Made.NEW, BAD, "trim", 1);
        refused(Made.NEW, BAD, "filling", 2);
        refused(Made.NEW, NONE, "why", 0);
        refused(Made.NEW, NONE, "odd", 0);
        refused(Made.NEW, NO, "check", 1);
        refused(Made.NEW, BAD, "check", 0);
        refused(Made.NEW, NO, "back");
        for (String name : new String[] {"mark", "grow", "copy"}) {
            refused(Made.NEW, NOTHING, name, 0, 0, 1, 0, 1);
        }
    }

    private static void askingChangesNothing() {
        String[] asking = {"has", "is", "may", "filling", "never", "told", "as", "who", "late", "foretold", "of", "why", "rules",
            "takes", "event", "end", "odd", "count"};
        for (String name : asking) {
            for (int one = 0; one < 3; one++) {
                changesNothing(Made.SOME, name, one, 0, 1, 2);
                changesNothing(Made.SOME, name, 0, one, 2, 1);
            }
            changesNothing(Made.ALL, name, 1, 1, 1, 1);
        }
        changesNothing(Made.SOME, "check", 1);
        changesNothing(Made.SOME, "check", 30);
    }
}
