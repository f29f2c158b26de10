import java.util.Arrays;
import java.util.List;
import java.util.Random;

/**
 * "No call may ever throw or fail to end, for any arguments in any state": every call with the least, the most and the odd
 * numbers in each place; and no answer is a refusal that the call's promise does not name.
 */
public final class AnyArgumentsTest {
    private static final int[] ANY = {Integer.MIN_VALUE, Integer.MIN_VALUE + 1, PrisonShops.SIZE, PrisonShops.NONE, PrisonShops.BAD,
        -1, 0, 1, 2, 3, 9, 10, 31, 32, 1000, 65536, Integer.MAX_VALUE};
    private static final int[] FEWER = {Integer.MIN_VALUE, -1, 0, 1, 3, 24, Integer.MAX_VALUE};
    /** Calls by Calls.NAMES with how many arguments they take and the refusals that their promises name, and NONE. */
    private static final String[] PROMISED = {"shop 3 BAD FULL", "rate 2 BAD", "lock 2 BAD", "has 2 BAD", "hand 3 BAD FULL",
        "is 2 BAD NONE", "be 3 BAD NONE", "bar 3 BAD", "may 2 BAD", "put 2 BAD NO NONE", "filling 1 BAD NONE", "fill 0", "never 0",
        "thing 4 BAD FULL", "told 2 BAD NONE", "as 2 BAD KIND", "out 2 BAD KIND NO", "hang 1 BAD KIND NO", "bell 2 BAD", "who 1 BAD",
        "late 1 BAD KIND", "foretold 1 BAD NONE", "feed 3 FULL", "trim 1 BAD", "text 1 BAD FULL", "of 2 BAD", "why 1 BAD NONE",
        "rules 4 BAD", "pay 1 BAD NO", "takes 2 BAD NO", "earn 1 BAD NO FULL", "lose 2 BAD NO FULL", "appeal 1 BAD KIND NO",
        "event 2 BAD NONE", "end 2 BAD", "run 1 BAD FULL", "seed 1 BAD", "search 1 BAD", "sheet 3 BAD SIZE",
        "mark 3 BAD NOTHING INDEX", "grow 3 BAD NOTHING INDEX", "copy 5 BAD NOTHING KIND INDEX", "odd 1 BAD NONE", "tell 1 FULL",
        "check 1 BAD NO", "keep 0", "back 0 NO", "count 1 BAD"};
    private static final int CALLS_OF_AN_OBJECT = 200;

    private final int how;
    private PrisonShops x;
    private int asked = CALLS_OF_AN_OBJECT;

    private AnyArgumentsTest(int how) {
        this.how = how;
    }

    public static void main(String[] args) {
        Due.is("all calls are here", PROMISED.length, Calls.NAMES.length);
        for (int how = 0; how < 3; how++) {
            AnyArgumentsTest test = new AnyArgumentsTest(how);
            for (int call = 0; call < PROMISED.length; call++) {
                Due.isTrue(PROMISED[call], PROMISED[call].startsWith(Calls.NAMES[call] + " "));
                test.askAll(call, new int[5], 0);
            }
        }
        drawn();
        Due.end();
    }

    private void askAll(int call, int[] v, int place) {
        int arguments = PROMISED[call].split(" ")[1].charAt(0) - '0';
        if (place == arguments) {
            ask(call, v);
            return;
        }
        for (int any : arguments > 3 ? FEWER : ANY) {
            v[place] = any;
            askAll(call, v, place + 1);
        }
        v[place] = 0;
    }

    private void ask(int call, int[] v) {
        if (asked == CALLS_OF_AN_OBJECT) {
            x = how == 0 ? new PrisonShops() : how == 1 ? RefusalsTest.some() : RefusalsTest.all();
            asked = 0;
        }
        asked++;
        int answer = Calls.make(x, call, v);
        if (canBeAnything(Calls.NAMES[call], v)) {
            return;
        }
        String code = codeOf(answer);
        boolean promised = code.isEmpty() ? answer > -2000000 : Arrays.asList(PROMISED[call].split(" ")).contains(code);
        Due.isTrue(Calls.NAMES[call] + Arrays.toString(v) + " answers " + answer, promised);
    }

    /** RULES of pay give any n without a TEXT; places of longs can hold any number. */
    private static boolean canBeAnything(String name, int[] v) {
        return name.equals("rules") && v[0] == 0 || (name.equals("mark") || name.equals("grow")) && v[0] >= 0 && v[0] < 4;
    }

    private static String codeOf(int answer) {
        switch (answer) {
            case PrisonShops.BAD: return "BAD";
            case PrisonShops.NO: return "NO";
            case PrisonShops.FULL: return "FULL";
            case PrisonShops.NONE: return "NONE";
            case PrisonShops.NOTHING: return "NOTHING";
            case PrisonShops.KIND: return "KIND";
            case PrisonShops.INDEX: return "INDEX";
            case PrisonShops.SIZE: return "SIZE";
            default: return "";
        }
    }

    /** Calls one after the other on one object, so that odd numbers meet odd states. */
    private static void drawn() {
        Random random = new Random(49);
        List<String> begins = List.of("shop", "hand", "thing", "put", "sheet", "text", "lose", "run", "keep");
        for (int i = 0; i < 900; i++) {
            AnyArgumentsTest test = new AnyArgumentsTest(i % 3);
            int[] v = new int[5];
            for (int k = 0; k < CALLS_OF_AN_OBJECT; k++) {
                for (int place = 0; place < v.length; place++) {
                    v[place] = random.nextInt(3) == 0 ? ANY[random.nextInt(ANY.length)] : random.nextInt(6);
                }
                int call = random.nextInt(Calls.NAMES.length);
                test.ask(k < 40 ? Calls.numberOf(begins.get(random.nextInt(begins.size()))) : call, v);
            }
        }
    }
}
