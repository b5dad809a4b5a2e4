import java.lang.reflect.Field;
import java.lang.reflect.Method;
import java.lang.reflect.Modifier;
import java.util.Arrays;
import java.util.function.LongSupplier;

/**
 * A test for each sentence of the document that names a boundary: at it, one below it, one above it,
 * with nothing there yet, with everything full, and where ints wrap. The refusals have RefusalsTest.
 */
public final class BoundariesTest {
    private static final int MAX = Integer.MAX_VALUE, MIN = Integer.MIN_VALUE;
    private static final int UNKNOWN = -1, OUTSIDE = -2, FULL = -4, NONE = -5;
    private static final int FAR_UNKNOWN = -2000000001, FAR_OUTSIDE = -2000000002, FAR_STATE = -2000000003;
    private static final int RATE = 0, ROAD = 1, TANK = 2, ACID = 3, COLD = 4, SWIFT = 5, RAIL = 6, WAGON = 7, SEALED = 8;
    private static final int BASE = 0, TOLL = 1, COVER = 2, WAIT = 3, NOTE = 4, TOTAL = 5;

    // Answers of ask() that are exceptions, outside of all ints.
    private static final long NO_RATE = 1L << 40, NO_WAY = NO_RATE + 1, ZERO = NO_RATE + 2, STRANGE = NO_RATE + 3;

    // d + d / 10 of these is just the greatest and just the least int.
    private static final int D_OF_MAX = 1952257861, D_OF_MIN = -1952257862;

    private static int wrong = 0;

    private static void due(String what, long want, long got) {
        if (want != got) {
            wrong++;
            System.out.println(what + ": answered " + shown(got) + ", due is " + shown(want));
        }
    }

    private static String shown(long answer) {
        String[] thrown = {"no such RATE", "no such way", "ZERO", "a strange exception"};
        return answer >= NO_RATE ? thrown[(int) (answer - NO_RATE)] : Long.toString(answer);
    }

    private static long answer(LongSupplier call) {
        try {
            return call.getAsLong();
        } catch (RuntimeException e) {
            Class<?> c = e.getClass();
            return c == ArrayIndexOutOfBoundsException.class ? NO_RATE
                    : c == IllegalArgumentException.class ? NO_WAY
                    : c == ArithmeticException.class ? ZERO : STRANGE;
        }
    }

    private static long ask(FreightRates x, int rate, int way, int w, int d) {
        return answer(() -> x.ask(rate, way, w, d));
    }

    /** An object with this RATE alone, its number 0. */
    private static FreightRates one(int kind, int value, int hours) {
        FreightRates x = new FreightRates();
        due("the first RATE", 0, x.rate(kind, value, hours));
        return x;
    }

    /** One RATE of each KIND, its number the KIND's. */
    private static FreightRates nine(int value, int hours) {
        FreightRates x = new FreightRates();
        for (int kind = 0; kind <= 8; kind++) {
            x.rate(kind, value, hours);
        }
        return x;
    }

    private static void dueWay(String what, int kind, int value, int hours, int way, int w, int d, long want) {
        due(what + ": way " + way + " of KIND " + kind + " for " + w + ", " + d, want, ask(one(kind, value, hours), 0, way, w, d));
    }

    /** That w and d have this answer with each of the KINDS. */
    private static void dueWays(String what, int[] kinds, int value, int hours, int way, int w, int d, long want) {
        for (int kind : kinds) {
            dueWay(what, kind, value, hours, way, w, d, want);
        }
    }

    /** All of the trail, in the order in which it was put down. */
    private static void dueTrail(String what, FreightRates x, String want) {
        StringBuilder got = new StringBuilder();
        for (int i = Math.min(40, x.count(2)) - 1; i >= 0; i--) {
            got.append(got.length() == 0 ? "" : " ").append(x.trail(i));
        }
        if (!got.toString().equals(want)) {
            wrong++;
            System.out.println(what + ": the trail is " + got + ", due is " + want);
        }
        due(what + ": behind the trail", NONE, x.trail(Math.min(40, x.count(2))));
    }

    public static void main(String[] args) {
        theFaceIsTheDocuments();
        nothingIsThereAtFirst();
        objectsShareNothing();
        mostRatesAreTwenty();
        kindsAreNoughtToEight();
        valuesAreNoughtToHundredThousand();
        hoursAreNoughtToNinetyNine();
        tallyIsNoughtAtFirst();
        parentsAndFaces();
        aKindWithoutAWayHasItsParents();
        baseWraps();
        tollWraps();
        noteWraps();
        totalWraps();
        facesWrap();
        divisionCutsTowardsNought();
        theLeastIntByMinusOne();
        divisionByNoughtIsZero();
        noughtIsNoZero();
        zeroEndsAWayAtOnce();
        sealedTotalOutlivesZero();
        theTrailTellsTheLatestForty();
        mostLoadsAreThirty();
        aBillTakesItsOwnLoadsInOrder();
        aBillWraps();
        zeroLoadsCountForNothing();
        failedTellsOfTheLatestBill();
        theCheapestIsTheFirstWithTheLeast();
        theCheapestPassesOverZero();
        theCheapestOfTwenty();
        taxOfNoRate();
        grossAtTheEdges();
        lateTakesNoughtToThousand();
        toldTakesNoughtToSix();
        becomeAtTheEdges();
        countOfZeros();
        countTakesNoughtToThree();
        clearOfEverything();
        fiveHundredAndTwelveCalls();
        System.out.println(wrong == 0 ? "all boundaries hold" : wrong + " answers are not as due");
        if (wrong != 0) {
            System.exit(1);
        }
    }

    // "The public face"
    private static void theFaceIsTheDocuments() {
        String[] want = {"ask(4)", "become(3)", "bill(1)", "cheapest(2)", "clear(0)", "count(1)", "failed(0)", "gross(2)",
            "late(2)", "load(3)", "rate(3)", "tax(2)", "told(2)", "trail(1)"};
        String got = "";
        for (Method m : FreightRates.class.getDeclaredMethods()) {
            if (Modifier.isPrivate(m.getModifiers()) || m.isSynthetic()) {
                continue;
            }
            got += m.getName() + "(" + m.getParameterCount() + ") ";
            due("face: " + m.getName() + " is public, not static", Modifier.PUBLIC, m.getModifiers());
            due("face: " + m.getName() + " tells an int", 1, m.getReturnType() == int.class ? 1 : 0);
            due("face: what " + m.getName() + " throws", m.getName().equals("ask") ? 3 : 0, m.getExceptionTypes().length);
        }
        String[] sorted = got.trim().split(" ");
        Arrays.sort(sorted);
        due("face: " + Arrays.toString(sorted), 1, Arrays.equals(want, sorted) ? 1 : 0);
        // Read from the class itself: a constant written by its name would be put in when this test is compiled.
        String[] names = {"UNKNOWN", "OUTSIDE", "STATE", "FULL", "NONE"};
        int constants = 0;
        for (Field f : FreightRates.class.getDeclaredFields()) {
            if (Modifier.isPrivate(f.getModifiers()) || f.isSynthetic()) {
                continue;
            }
            due("face: " + f.getName() + " is public static final", Modifier.PUBLIC | Modifier.STATIC | Modifier.FINAL,
                    f.getModifiers());
            due("face: " + f.getName(), -1 - Arrays.asList(names).indexOf(f.getName()), valueOf(f));
            constants++;
        }
        due("face: constants", names.length, constants);
        due("face: constructors", 1, FreightRates.class.getConstructors().length);
        due("face: final", 1, Modifier.isFinal(FreightRates.class.getModifiers()) ? 1 : 0);
    }

    private static int valueOf(Field constant) {
        try {
            return constant.getInt(null);
        } catch (IllegalAccessException e) {
            return MIN;
        }
    }

    private static void dueNothing(String what, FreightRates x) {
        for (int i = 0; i <= 3; i++) {
            due(what + ": count(" + i + ")", 0, x.count(i));
        }
        due(what + ": failed()", 0, x.failed());
        for (int i : new int[] {-1, 0, 1, 38, 39, 40}) {
            due(what + ": trail(" + i + ")", NONE, x.trail(i));
        }
        for (int rate : new int[] {-1, 0, 1, 19, 20}) {
            due(what + ": told", UNKNOWN, x.told(rate, 0));
            due(what + ": become", UNKNOWN, x.become(rate, 1, 1));
            due(what + ": load", UNKNOWN, x.load(rate, 1, 1));
            due(what + ": bill", FAR_UNKNOWN, x.bill(rate));
            due(what + ": tax", 0, x.tax(rate, 1000));
            due(what + ": gross", FAR_UNKNOWN, x.gross(rate, 1000));
            due(what + ": late", FAR_UNKNOWN, x.late(rate, 10));
            due(what + ": ask", NO_RATE, ask(x, rate, BASE, 1, 1));
        }
        due(what + ": cheapest", NONE, x.cheapest(1, 1));
        for (int i = 0; i <= 3; i++) {
            due(what + ": still count(" + i + ")", 0, x.count(i));
        }
    }

    // Promise 1: "Nothing is there."
    private static void nothingIsThereAtFirst() {
        dueNothing("new", new FreightRates());
        due("new: clear", 0, new FreightRates().clear());
        FreightRates x = new FreightRates();
        x.clear();
        dueNothing("new and cleared", x);
        due("new: the first RATE", 0, x.rate(RATE, 0, 0));
        due("new: the first LOAD", 0, x.load(0, 0, 0));
    }

    private static void objectsShareNothing() {
        FreightRates x = nine(500, 0);
        FreightRates y = new FreightRates();
        x.load(RAIL, 1, 0);
        x.bill(RAIL);
        ask(x, WAGON, NOTE, 1, 1);
        dueNothing("beside another one", y);
        y.rate(SEALED, 7, 7);
        due("beside another one: the other's RATE", RATE, x.told(0, 0));
        due("beside another one: the other's VALUE", 500, x.told(0, 1));
        y.clear();
        due("beside another one: the other's RATES", 9, x.count(0));
        due("beside another one: the other's failed", 1, x.failed());
        due("beside another one: the other's trail", 5, x.count(2));
    }

    // "numbered from 0 on as they are made (20 at most)"
    private static void mostRatesAreTwenty() {
        FreightRates x = new FreightRates();
        for (int i = 0; i < 20; i++) {
            due("20 RATES: number " + i + " is not there yet", UNKNOWN, x.told(i, 0));
            due("20 RATES: number " + i, i, x.rate(i % 9, 1000 * i, i));
            due("20 RATES: so many after " + i, i + 1, x.count(0));
        }
        for (int i = 0; i < 3; i++) {
            due("20 RATES: the 21st", FULL, x.rate(RATE, 0, 0));
        }
        due("20 RATES: there are 20", 20, x.count(0));
        for (int i = 0; i < 20; i++) {
            due("20 RATES: KIND of " + i, i % 9, x.told(i, 0));
            due("20 RATES: VALUE of " + i, 1000 * i, x.told(i, 1));
            due("20 RATES: HOURS of " + i, i, x.told(i, 2));
        }
        // The 20th is a ROAD of 19000 and 19.
        due("20 RATES: told(20, 0)", UNKNOWN, x.told(20, 0));
        due("20 RATES: ask of the 20th", 190, ask(x, 19, COVER, 1, 1));
        due("20 RATES: ask of the 21st", NO_RATE, ask(x, 20, COVER, 1, 1));
        due("20 RATES: tax of the 20th", 2, x.tax(19, 10));
        due("20 RATES: tax of the 21st", 0, x.tax(20, 10));
        due("20 RATES: gross of the 20th", 12, x.gross(19, 10));
        due("20 RATES: gross of the 21st", FAR_UNKNOWN, x.gross(20, 10));
        due("20 RATES: late of the 15th, a SWIFT", 2 * 12 - 10, x.late(14, 10));
        due("20 RATES: late of the 21st", FAR_UNKNOWN, x.late(20, 10));
        due("20 RATES: load of the 20th", 0, x.load(19, 10, 10));
        due("20 RATES: load of the 21st", UNKNOWN, x.load(20, 10, 10));
        due("20 RATES: bill of the 20th", 100 + 6 + 190 + 10, x.bill(19));
        due("20 RATES: bill of the 21st", FAR_UNKNOWN, x.bill(20));
        due("20 RATES: become of the 20th", 1, x.become(19, 100, 1));
        due("20 RATES: become of the 21st", UNKNOWN, x.become(20, 100, 1));
        due("20 RATES: the 20th became another", 100, x.told(19, 1));
    }

    // "KINDS .. 0 RATE .. 8 SEALED"
    private static void kindsAreNoughtToEight() {
        FreightRates x = new FreightRates();
        for (int kind : new int[] {MIN, -1, 9, 10, MAX}) {
            due("KIND " + kind, OUTSIDE, x.rate(kind, 5, 5));
            due("KIND " + kind + " is none", 0, x.count(0));
        }
        for (int kind = 0; kind <= 8; kind++) {
            due("KIND " + kind, kind, x.rate(kind, 5, 5));
            due("KIND " + kind + " is told", kind, x.told(kind, 0));
        }
    }

    // "a VALUE (0 .. 100000)"
    private static void valuesAreNoughtToHundredThousand() {
        FreightRates x = new FreightRates();
        for (int value : new int[] {MIN, -100000, -1, 100001, 100002, MAX}) {
            due("VALUE " + value, OUTSIDE, x.rate(RATE, value, 5));
            due("VALUE " + value + " makes none", 0, x.count(0));
        }
        int number = 0;
        for (int value : new int[] {0, 1, 99999, 100000}) {
            due("VALUE " + value, number, x.rate(RATE, value, 5));
            due("VALUE " + value + " is told", value, x.told(number, 1));
            number++;
        }
        for (int value : new int[] {MIN, -100000, -1, 100001, 100002, MAX}) {
            due("become VALUE " + value, OUTSIDE, x.become(3, value, 6));
            due("become VALUE " + value + " leaves it", 100000, x.told(3, 1));
            due("become VALUE " + value + " leaves HOURS", 5, x.told(3, 2));
        }
        for (int value : new int[] {0, 1, 99999, 100000}) {
            due("become VALUE " + value, 1, x.become(2, value, 6));
            due("become VALUE " + value + " is told", value, x.told(2, 1));
        }
    }

    // "HOURS (0 .. 99)"
    private static void hoursAreNoughtToNinetyNine() {
        FreightRates x = new FreightRates();
        for (int hours : new int[] {MIN, -99, -1, 100, 101, MAX}) {
            due("HOURS " + hours, OUTSIDE, x.rate(RATE, 5, hours));
            due("HOURS " + hours + " make none", 0, x.count(0));
        }
        int number = 0;
        for (int hours : new int[] {0, 1, 98, 99}) {
            due("HOURS " + hours, number, x.rate(RATE, 5, hours));
            due("HOURS " + hours + " are told", hours, x.told(number, 2));
            number++;
        }
        for (int hours : new int[] {MIN, -99, -1, 100, 101, MAX}) {
            due("become HOURS " + hours, OUTSIDE, x.become(3, 6, hours));
            due("become HOURS " + hours + " leaves them", 99, x.told(3, 2));
            due("become HOURS " + hours + " leaves VALUE", 5, x.told(3, 1));
        }
        for (int hours : new int[] {0, 1, 98, 99}) {
            due("become HOURS " + hours, 1, x.become(2, 6, hours));
            due("become HOURS " + hours + " are told", hours, x.told(2, 2));
        }
    }

    // "a TALLY (0 at first)"
    private static void tallyIsNoughtAtFirst() {
        FreightRates x = nine(100, 1);
        int[] byNote = {1, 1, 2, 2, 2, 2, 1, 11, 11};
        for (int kind = 0; kind <= 8; kind++) {
            due("TALLY at first, KIND " + kind, 0, x.told(kind, 3));
            for (int way : new int[] {BASE, TOLL, COVER, WAIT, TOTAL}) {
                ask(x, kind, way, 10, 10);
            }
            x.tax(kind, 10);
            x.gross(kind, 10);
            x.late(kind, 10);
            due("TALLY without a NOTE, KIND " + kind, 0, x.told(kind, 3));
        }
        for (int kind = 0; kind <= 8; kind++) {
            ask(x, kind, NOTE, 10, 10);
            due("TALLY by one NOTE, KIND " + kind, byNote[kind], x.told(kind, 3));
            x.become(kind, 50, 2);
            due("TALLY stays by become, KIND " + kind, byNote[kind], x.told(kind, 3));
        }
        for (int kind = 0; kind <= 8; kind++) {
            due("TALLY is each RATE's own, KIND " + kind, byNote[kind], x.told(kind, 3));
        }
        x.clear();
        x.rate(WAGON, 0, 0);
        due("TALLY of the first behind clear", 0, x.told(0, 3));
    }

    // "KINDS, each with its PARENT"; "TAXED are ROAD and WAGON, and all that are under these .. TIMED are COLD and SWIFT"
    private static void parentsAndFaces() {
        FreightRates x = nine(0, 0);
        int[] taxed = {0, 1, 1, 1, 1, 1, 0, 1, 1};
        int[] timed = {0, 0, 0, 0, 1, 1, 0, 0, 0};
        int[] over = {0, 1, 2, 3, 2, 3, 1, 2, 3};
        for (int kind = 0; kind <= 8; kind++) {
            due("TAXED, KIND " + kind, taxed[kind], x.told(kind, 4));
            due("TIMED, KIND " + kind, timed[kind], x.told(kind, 5));
            due("KINDS over KIND " + kind, over[kind], x.told(kind, 6));
            due("GROSS of KIND " + kind, taxed[kind], x.gross(kind, 100) == FAR_STATE ? 0 : 1);
            due("LATE of KIND " + kind, timed[kind], x.late(kind, 100) == FAR_STATE ? 0 : 1);
        }
    }

    // "A KIND has a way as told here; another one has it as its PARENT does"; "10 times the KIND and the number of the
    // way (TAX 6, GROSS 7, HOURED 8)"; "What up does is put down behind what asked for it."
    private static void aKindWithoutAWayHasItsParents() {
        String[][] ways = {
            {"0", "0", "20 0", "20 0", "0", "50 0", "60", "60", "80 60"},
            {"1", "11 1", "11 1", "31 11 1", "11 1", "11 1", "61", "61", "81 61"},
            {"2", "2", "2", "32 2", "42 2", "52 42 2", "2", "72 2", "82 72 2"},
            {"3", "13 3", "13 3", "13 3", "13 3", "53 13 3", "3", "3", "83 3"},
            {"4", "4", "24 4 4", "34 24 4 4", "44 4", "54 44 4", "4", "74 4", "74 4"},
            {"5", "5", "5", "35 5", "5", "5", "5", "5", "85 5"},
        };
        String[] tax = {"6", "6", "6", "6", "46 6", "46 6", "6", "6", "86 6"};
        String[] gross = {"", "6", "6", "6", "46 6", "46 6", "", "77 6", "87 77 86 6"};
        String[] houred = {"", "", "", "", "48", "58 48", "", "", ""};
        for (int kind = 0; kind <= 8; kind++) {
            String of = "trail of KIND " + kind + ", way ";
            for (int way = BASE; way < TOTAL; way++) {
                FreightRates x = one(kind, 100, 1);
                ask(x, 0, way, 10, 10);
                dueTrail(of + way, x, ways[way][kind]);
            }
            FreightRates total = one(kind, 100, 1);
            ask(total, 0, TOTAL, 10, 10);
            dueTrail(of + "TOTAL", total, ways[TOTAL][kind] + " " + ways[BASE][kind] + " " + ways[TOLL][kind] + " "
                    + ways[COVER][kind] + " " + ways[WAIT][kind]);
            FreightRates x = one(kind, 100, 1);
            x.tax(0, 100);
            dueTrail(of + "TAX", x, tax[kind]);
            FreightRates y = one(kind, 100, 1);
            y.gross(0, 100);
            dueTrail(of + "GROSS", y, gross[kind]);
            FreightRates z = one(kind, 100, 1);
            z.late(0, 100);
            dueTrail(of + "HOURED", z, houred[kind]);
        }
    }

    // "all numbers are ints, and wrap"
    private static void baseWraps() {
        int[] plain = {RATE, ROAD, COLD};
        dueWays("wrap", plain, 0, 0, BASE, MAX, 1, MAX);
        dueWays("wrap", plain, 0, 0, BASE, 46341, 46341, 2147488281L - (1L << 32));
        dueWays("wrap", plain, 0, 0, BASE, 46340, 46340, 2147395600);
        dueWays("wrap", plain, 0, 0, BASE, 65536, 65536, 0);
        dueWays("wrap", plain, 0, 0, BASE, MIN, -1, MIN);
        dueWays("wrap", plain, 0, 0, BASE, MIN, MIN, 0);
        dueWays("wrap", plain, 0, 0, BASE, MAX, MAX, 1);
        dueWays("wrap", plain, 0, 0, BASE, MAX, MIN, MIN);
        int[] tanks = {TANK, ACID};
        dueWays("wrap", tanks, 0, 0, BASE, 42949672, 0, 2147483600);
        dueWays("wrap", tanks, 0, 0, BASE, 42949673, 0, 2147483650L - (1L << 32));
        dueWays("wrap", tanks, 0, 0, BASE, -42949672, 0, -2147483600);
        dueWays("wrap", tanks, 0, 0, BASE, -42949673, 0, (1L << 32) - 2147483650L);
        dueWays("wrap", tanks, 0, 0, BASE, 1, MAX - 50, MAX);
        dueWays("wrap", tanks, 0, 0, BASE, 1, MAX - 49, MIN);
        dueWays("wrap", tanks, 0, 0, BASE, MIN, 1, MIN);
        dueWay("wrap", SWIFT, 0, 0, BASE, 1, 1073741823, 2147483646);
        dueWay("wrap", SWIFT, 0, 0, BASE, 1, 1073741824, MIN);
        dueWay("wrap", SWIFT, 0, 0, BASE, 1, -1073741824, MIN);
        dueWay("wrap", SWIFT, 0, 0, BASE, 1, -1073741825, 2147483646);
        dueWay("wrap", SWIFT, 0, 0, BASE, MAX, 1, -2);
        int[] rails = {RAIL, WAGON};
        dueWays("wrap", rails, 0, 0, BASE, 1073741823, 4, 2147483646);
        dueWays("wrap", rails, 0, 0, BASE, 1073741824, 4, MIN);
        dueWays("wrap", rails, 0, 0, BASE, MIN, -2, MIN);
        dueWay("wrap", SEALED, 100000, 0, BASE, MAX - 100000, 2, MAX);
        dueWay("wrap", SEALED, 100000, 0, BASE, MAX - 99999, 2, MIN);
        dueWay("wrap", SEALED, 1, 0, BASE, MAX, 2, MIN);
        dueWay("wrap", SEALED, 0, 0, BASE, MAX, 2, MAX);
    }

    private static void tollWraps() {
        dueWay("wrap", SEALED, 0, 1, TOLL, 1073741823, 1, 2147483646);
        dueWay("wrap", SEALED, 0, 1, TOLL, 1073741824, 1, MIN);
        dueWay("wrap", SEALED, 0, 1, TOLL, -1073741824, 1, MIN);
        dueWay("wrap", SEALED, 0, 1, TOLL, -1073741825, 1, 2147483646);
        dueWay("wrap", SEALED, 0, 1, TOLL, MAX, 1, -2);
        dueWay("wrap", SEALED, 0, 1, TOLL, MIN, 1, 0);
        // These stay just within the ints.
        dueWay("no wrap", RATE, 0, 0, TOLL, 0, MAX, 214748364);
        dueWay("no wrap", ROAD, 0, 0, TOLL, 0, MAX, 214748369);
        dueWay("no wrap", ACID, 0, 0, TOLL, 0, MAX, 644245107);
        dueWay("no wrap", ACID, 0, 0, TOLL, 0, MIN, -644245077);
    }

    private static void noteWraps() {
        dueWay("wrap", SWIFT, 0, 0, NOTE, MAX - 2, 0, MAX);
        dueWay("wrap", SWIFT, 0, 0, NOTE, MAX - 1, 0, MIN);
        dueWay("wrap", SWIFT, 0, 0, NOTE, MAX, 0, MIN + 1);
        dueWay("wrap", SWIFT, 0, 0, NOTE, MIN, 0, MIN + 2);
        for (int kind : new int[] {WAGON, SEALED}) {
            dueWay("wrap", kind, 0, 0, NOTE, MAX - 11, 1, MAX);
            dueWay("wrap", kind, 0, 0, NOTE, MAX - 10, 1, MIN);
            dueWay("wrap", kind, 0, 0, NOTE, MAX, 1, MIN + 10);
        }
        FreightRates acid = one(ACID, 0, 0);
        for (int n = 1; n <= 200; n++) {
            due("NOTE of ACID, " + n, 2 * n + 100, ask(acid, 0, NOTE, MAX, MIN));
        }
        for (int kind : new int[] {COLD, SWIFT}) {
            FreightRates x = one(kind, 0, 0);
            for (int n = 1; n <= 40; n++) {
                int tally = n < 31 ? (int) ((1L << (n + 1)) - 2) : -2;
                due("TALLY of KIND " + kind + " wraps, NOTE " + n, tally, ask(x, 0, NOTE, 0, 0));
                due("TALLY of KIND " + kind + " is told, NOTE " + n, tally, x.told(0, 3));
            }
        }
    }

    private static void totalWraps() {
        dueWay("TOTAL", RATE, 0, 0, TOTAL, 1, D_OF_MAX, MAX);
        dueWay("TOTAL wraps", RATE, 100, 0, TOTAL, 1, D_OF_MAX, MIN);
        dueWay("TOTAL wraps", RATE, 100000, 0, TOTAL, 1, D_OF_MAX, MIN + 999);
        dueWay("TOTAL", RATE, 0, 0, TOTAL, 1, D_OF_MIN, MIN);
        dueWay("TOTAL wraps", RATE, 0, 0, TOTAL, 1, D_OF_MIN - 1, MAX);
        dueWay("TOTAL wraps", ROAD, 0, 0, TOTAL, 1, D_OF_MAX, MIN + 14);
        dueWay("TOTAL wraps", COLD, 0, 1, TOTAL, 1, D_OF_MAX, MIN + 15);
        // BASE 50, TOLL 15, COVER 0, WAIT 10 and 9
        dueWay("TOTAL", ACID, 0, 0, TOTAL, 1, 0, 84);
        dueWay("TOTAL", ACID, 0, 0, TOTAL, 1, 1651910434, MAX);
        dueWay("TOTAL wraps by 9", ACID, 0, 0, TOTAL, 1, 1651910435, MIN);
        dueWay("TOTAL wraps", RATE, 0, 0, TOTAL, MAX, 1, (int) (MAX + 2147483L));
        dueWay("TOTAL wraps", RATE, 0, 0, TOTAL, MIN, 1, (int) (MIN - 2147483L));
        dueWay("TOTAL wraps", SWIFT, 0, 0, TOTAL, 1, 1073741824, (int) (2147483648L + 107374182 + 5 + 10));
        dueWay("TOTAL wraps", RAIL, 0, 0, TOTAL, MAX, 2, (int) (MAX + 1073741823L + 2147483));
        dueWay("TOTAL wraps", SEALED, 0, 7, TOTAL, MAX, 2, (int) (MAX + 1073741823L + MAX + 1 + 2 * 2147483));
    }

    private static void facesWrap() {
        FreightRates x = nine(0, 0);
        // amount + amount / 5 of 1789569706 is the greatest int, of -1789569707 the least.
        due("GROSS", MAX, x.gross(ROAD, 1789569706));
        due("GROSS wraps", MIN, x.gross(ROAD, 1789569707));
        due("GROSS", MIN, x.gross(ROAD, -1789569707));
        due("GROSS wraps", MAX, x.gross(ROAD, -1789569708));
        due("GROSS of COLD wraps", MAX, x.gross(COLD, -1789569707));
        due("GROSS of MAX wraps", (int) (MAX + 429496729L), x.gross(TANK, MAX));
        due("GROSS of MIN wraps", (int) (MIN - 429496729L), x.gross(ACID, MIN));
        due("GROSS of WAGON, MAX, wraps", (int) (MAX + 2 * 429496729L), x.gross(WAGON, MAX));
        due("GROSS of WAGON, MIN, wraps", (int) (MIN - 2 * 429496729L), x.gross(WAGON, MIN));
        due("GROSS of SEALED, MAX, wraps", (int) (MAX + 2 * 429496732L + 1), x.gross(SEALED, MAX));
        due("GROSS of SEALED, MIN, wraps", (int) (MIN - 2 * 429496726L + 1), x.gross(SEALED, MIN));
        due("TAX of MAX", 429496729, x.tax(RATE, MAX));
        due("TAX of MIN", -429496729, x.tax(RATE, MIN));
        due("TAX of COLD, MIN", -429496730, x.tax(COLD, MIN));
        due("TAX of SEALED, MAX", 429496732, x.tax(SEALED, MAX));
    }

    // "/ cuts towards 0"
    private static void divisionCutsTowardsNought() {
        int[][] tolls = {{9, 0}, {10, 1}, {19, 1}, {20, 2}, {-9, 0}, {-10, -1}, {-19, -1}, {-20, -2}, {0, 0}};
        for (int[] t : tolls) {
            dueWay("d / 10", RATE, 0, 0, TOLL, 0, t[0], t[1]);
            dueWay("d / 10", ROAD, 0, 0, TOLL, 0, t[0], t[1] + 5);
            dueWay("d / 10", ACID, 0, 0, TOLL, 0, t[0], 3 * (t[1] + 5));
        }
        int[][] waits = {{999, 0}, {1000, 1}, {1999, 1}, {-999, 0}, {-1000, -1}, {-1999, -1}, {MAX, 2147483}, {MIN, -2147483}};
        for (int[] t : waits) {
            dueWay("w / 1000", RATE, 0, 0, WAIT, t[0], 0, t[1]);
            dueWay("w / 1000", ROAD, 0, 0, WAIT, t[0], 0, t[1] + 10);
            dueWay("w / 1000", SWIFT, 0, 99, WAIT, t[0], 0, t[1] - 89);
            dueWay("w / 1000", SEALED, 0, 0, WAIT, t[0], 0, 2 * t[1]);
        }
        int[][] halves = {{1, 0}, {2, 1}, {3, 1}, {-1, 0}, {-2, -1}, {-3, -1}, {0, 0}, {MAX, 1073741823}, {MIN, -1073741824}};
        for (int[] t : halves) {
            dueWay("w times (d / 2)", RAIL, 0, 0, BASE, 1, t[0], t[1]);
            dueWay("w times (d / 2)", WAGON, 0, 0, BASE, -1, t[0], -t[1]);
            dueWay("w times (d / 2)", SEALED, 7, 0, BASE, 1, t[0], t[1] + 7);
        }
        int[][] shares = {{7, 2, 3}, {-7, 2, -3}, {7, -2, -3}, {-7, -2, 3}, {1, 2, 0}, {-1, 2, 0}, {2, 2, 1}, {MAX, MIN, 0},
            {MIN, MAX, -1}, {MIN, MIN, 1}, {MAX, MAX, 1}, {MIN, 2, -1073741824}};
        for (int[] t : shares) {
            dueWay("w / d", RAIL, 0, 0, TOLL, t[0], t[1], t[2]);
            dueWay("w / d", WAGON, 0, 0, TOLL, t[0], t[1], t[2]);
            dueWay("w / d", SEALED, 0, 0, TOLL, t[0], t[1], (int) ((long) t[2] + t[0]));
            dueWay("w / d", WAGON, 0, 0, NOTE, t[0], t[1], t[2] + 11);
        }
        int[][] covers = {{0, 0}, {99, 0}, {100, 1}, {199, 1}, {200, 2}, {99999, 999}, {100000, 1000}};
        for (int[] t : covers) {
            dueWay("VALUE / 100", RATE, t[0], 5, COVER, 0, 0, t[1]);
            dueWay("VALUE / 100", ACID, t[0], 5, COVER, 0, 0, 3 * t[1]);
            dueWay("VALUE / 100", COLD, t[0], 5, COVER, 0, 0, t[1] + 5);
            dueWay("VALUE / 100", SWIFT, t[0], 5, COVER, 0, 0, (t[1] + 5) / 2);
            dueWay("VALUE / 100", WAGON, t[0], 5, COVER, 0, 0, t[1] + 7);
        }
        int[][] sealed = {{0, 1, 7}, {0, 6, 1}, {0, 7, 1}, {0, 8, 0}, {0, 99, 0}, {9199, 99, 0}, {9200, 99, 1}, {100000, 1, 1007},
            {100000, 99, 10}};
        for (int[] t : sealed) {
            dueWay("up / HOURS", SEALED, t[0], t[1], COVER, 0, 0, t[2]);
        }
        FreightRates x = nine(0, 0);
        int[][] taxes = {{4, 0}, {5, 1}, {9, 1}, {10, 2}, {-4, 0}, {-5, -1}, {-9, -1}, {-10, -2}, {0, 0}};
        for (int[] t : taxes) {
            due("amount / 5 of " + t[0], t[1], x.tax(RATE, t[0]));
            due("amount / 5 of " + t[0] + ", COLD", t[1] - 1, x.tax(COLD, t[0]));
            due("amount / 5 of " + t[0] + ", SEALED", t[1] + 3, x.tax(SEALED, t[0]));
        }
    }

    // The least int divided by -1 wraps to itself.
    private static void theLeastIntByMinusOne() {
        dueWay("MIN / -1", RAIL, 0, 1, TOLL, MIN, -1, MIN);
        dueWay("MIN / -1", WAGON, 0, 1, TOLL, MIN, -1, MIN);
        dueWay("MIN / -1", SEALED, 0, 1, TOLL, MIN, -1, 0);
        dueWay("MIN / -1", WAGON, 0, 1, NOTE, MIN, -1, MIN + 11);
        dueWay("MIN / -1", SEALED, 0, 1, NOTE, MIN, -1, MIN + 11);
        dueWay("MIN / -1", RAIL, 0, 1, TOTAL, MIN, -1, MIN - 2147483);
        dueWay("MIN / -1", WAGON, 0, 1, TOTAL, MIN, -1, (int) (MIN - 2147483L + 7));
        dueWay("MIN / -1", SEALED, 0, 1, TOTAL, MIN, -1, 7 - 2 * 2147483);
        dueWay("(MIN + 1) / -1", RAIL, 0, 1, TOLL, MIN + 1, -1, MAX);
        dueWay("MAX / -1", RAIL, 0, 1, TOLL, MAX, -1, MIN + 1);
        dueWay("MIN / 1", RAIL, 0, 1, TOLL, MIN, 1, MIN);
        FreightRates x = one(RAIL, 0, 1);
        x.load(0, MIN, -1);
        due("MIN / -1 in a bill", (int) (MIN - 2147483L), x.bill(0));
        due("MIN / -1 in a bill is no ZERO", 0, x.failed());
        due("MIN / -1 in the cheapest", 0, x.cheapest(MIN, -1));
        due("MIN / -1 is no ZERO", 0, x.count(3));
    }

    // "/ .. by 0 it is ZERO"
    private static void divisionByNoughtIsZero() {
        for (int w : new int[] {MIN, -1, 0, 1, MAX}) {
            dueWays("w / 0", new int[] {RAIL, WAGON, SEALED}, 500, 5, TOLL, w, 0, ZERO);
            dueWays("w / 0", new int[] {WAGON, SEALED}, 500, 5, NOTE, w, 0, ZERO);
            dueWays("w / 0", new int[] {RAIL, WAGON}, 500, 5, TOTAL, w, 0, ZERO);
            dueWay("w / 0", SEALED, 500, 5, TOTAL, w, 0, 500);
            for (int d : new int[] {MIN, -1, 0, 1, MAX}) {
                dueWay("up / HOURS of 0", SEALED, 500, 0, COVER, w, d, ZERO);
                dueWay("up / HOURS of 0", SEALED, 500, 0, TOTAL, w, d, 500);
                dueWay("up / HOURS of 1", SEALED, 500, 1, COVER, w, d, 12);
            }
        }
        dueWay("w / 1", RAIL, 0, 0, TOLL, 5, 1, 5);
        dueWay("w / -1", RAIL, 0, 0, TOLL, 5, -1, -5);
        dueWay("HOURS of 0 are WAGON's too", WAGON, 500, 0, COVER, 0, 0, 12);
    }

    private static void noughtIsNoZero() {
        int[] road = {RATE, ROAD, TANK, ACID, COLD, SWIFT};
        for (int kind : road) {
            FreightRates x = one(kind, 0, 0);
            for (int way = BASE; way <= TOTAL; way++) {
                due("no ZERO on the ROAD, KIND " + kind + ", way " + way, 1, ask(x, 0, way, 0, 0) < NO_RATE ? 1 : 0);
            }
            due("no ZERO on the ROAD, KIND " + kind, 0, x.count(3));
        }
        dueWay("0 / 5", RAIL, 0, 0, TOLL, 0, 5, 0);
        dueWay("0 / 5", SEALED, 0, 0, TOLL, 0, 5, 0);
        dueWay("0 times 0", RAIL, 0, 0, BASE, 0, 0, 0);
        dueWay("d / 2 of 0", SEALED, 0, 0, BASE, 5, 0, 0);
        dueWay("NOTE of RAIL divides by nothing", RAIL, 0, 0, NOTE, 5, 0, 1);
        dueWay("WAIT of SEALED divides by no d", SEALED, 0, 0, WAIT, 5000, 0, 10);
        dueWay("TOTAL of 0", RAIL, 0, 0, TOTAL, 0, 5, 0);
        FreightRates x = one(RAIL, 0, 0);
        x.load(0, 0, 5);
        due("a bill of 0", 0, x.bill(0));
        due("a bill of 0 has not failed", 0, x.failed());
        due("the cheapest may be 0", 0, x.cheapest(0, 5));
        due("0 is no ZERO", 0, x.count(3));
    }

    // "ZERO ends a way at once (what it did ahead stays done)."
    private static void zeroEndsAWayAtOnce() {
        int[] kinds = {RAIL, WAGON, SEALED, WAGON, SEALED, SEALED, RAIL, WAGON, SEALED, SEALED};
        int[] ways = {TOLL, TOLL, TOLL, NOTE, NOTE, COVER, TOTAL, TOTAL, TOTAL, TOTAL};
        int[] ds = {0, 0, 0, 0, 0, 5, 0, 0, 0, 5};
        String[] trails = {"61", "61", "81 61", "74", "74", "82 72 2", "5 60 61", "5 60 61", "85 5 80 60 81 61",
            "85 5 80 60 81 61 82 72 2"};
        for (int i = 0; i < kinds.length; i++) {
            FreightRates x = one(kinds[i], 300, 0);
            ask(x, 0, ways[i], 5, ds[i]);
            dueTrail("ZERO in way " + ways[i] + " of KIND " + kinds[i], x, trails[i]);
            due("ZERO in way " + ways[i] + " of KIND " + kinds[i] + ": TALLY", ways[i] == NOTE ? 10 : 0, x.told(0, 3));
        }
        for (int kind : new int[] {WAGON, SEALED}) {
            FreightRates x = one(kind, 300, 0);
            for (int n = 1; n <= 5; n++) {
                due("ZERO in NOTE", ZERO, ask(x, 0, NOTE, 5, 0));
                due("ZERO in NOTE: TALLY grew by 10", 10 * n, x.told(0, 3));
            }
            due("NOTE behind ZERO", 5 + 61, ask(x, 0, NOTE, 5, 1));
            due("BASE behind ZERO", kind == SEALED ? 305 : 5, ask(x, 0, BASE, 5, 2));
        }
        FreightRates x = nine(300, 0);
        x.load(RAIL, 5, 0);
        x.load(RAIL, 5, 1);
        x.bill(RAIL);
        dueTrail("ZERO in a bill: the next LOAD", x, "5 60 61 5 60 61 2 3");
        FreightRates y = new FreightRates();
        y.rate(WAGON, 0, 0);
        y.rate(SEALED, 0, 0);
        y.rate(RATE, 0, 0);
        y.cheapest(5, 0);
        dueTrail("ZERO in the cheapest: the next RATE", y, "5 60 61 85 5 80 60 81 61 5 0 1 2 3");
    }

    // "SEALED up, or, if that is ZERO, VALUE."
    private static void sealedTotalOutlivesZero() {
        for (int value : new int[] {0, 1, 99999, 100000}) {
            FreightRates x = one(SEALED, value, 1);
            due("SEALED's TOTAL, d = 0", value, ask(x, 0, TOTAL, 5, 0));
            x.become(0, value, 0);
            due("SEALED's TOTAL, HOURS = 0", value, ask(x, 0, TOTAL, 5, 5));
            due("SEALED's TOTAL, both", value, ask(x, 0, TOTAL, 5, 0));
            x.load(0, 5, 0);
            x.load(0, 5, 5);
            due("SEALED's bill", 2 * value, x.bill(0));
            due("SEALED's bill has not failed", 0, x.failed());
            due("SEALED is the cheapest", 0, x.cheapest(5, 0));
            due("SEALED's TOTAL was no ZERO", 0, x.count(3));
            x.become(0, value, 1);
            // BASE w times 2 and VALUE, TOLL 1 and w, COVER VALUE / 100 and 7
            due("SEALED's TOTAL without ZERO", 10 + value + 6 + value / 100 + 7, ask(x, 0, TOTAL, 5, 5));
        }
    }

    // "the latest 40 are told"; promise 13: "i from the latest one on; NONE: it is not told"
    private static void theTrailTellsTheLatestForty() {
        FreightRates x = nine(0, 0);
        int[] ways = new int[200];
        for (int n = 0; n < 130; n++) {
            if (n < 3 || n > 37 && n < 43 || n > 77 && n < 83 || n > 117 && n < 123) {
                due("trail of " + n + ": so many", n, x.count(2));
                for (int i : new int[] {MIN, -40, -1, 40, 41, n, MAX}) {
                    due("trail of " + n + ", " + i, i >= 0 && i < n && i < 40 ? ways[n - 1 - i] : NONE, x.trail(i));
                }
                for (int i : new int[] {0, 1, 37, 38, 39, n - 1, n - 2}) {
                    due("trail of " + n + ", " + i, i >= 0 && i < n && i < 40 ? ways[n - 1 - i] : NONE, x.trail(i));
                }
            }
            // The four ways of RATE alone, in a row that 40 does not divide.
            int way = n * n % 7 % 4;
            ways[n] = way;
            ask(x, RATE, way, 0, 0);
        }
        FreightRates y = one(ACID, 0, 0);
        for (int n = 0; n < 4; n++) {
            ask(y, 0, TOTAL, 0, 0);
        }
        due("a TOTAL of 11 four times: so many", 44, y.count(2));
        dueTrail("a TOTAL of 11 four times", y, "31 11 1 32 2 13 3 35 5 20 0 31 11 1 32 2 13 3 35 5 20 0 31 11 1 32 2 13 3 "
                + "35 5 20 0 31 11 1 32 2 13 3");
        FreightRates z = one(ACID, 0, 0);
        for (int i = 0; i < 30; i++) {
            z.load(0, i, i);
        }
        z.bill(0);
        due("a bill of 330: so many", 330, z.count(2));
        due("a bill of 330: the 40th", 31, z.trail(39));
        due("a bill of 330: no 41st", NONE, z.trail(40));
    }

    // "LOADS 0, 1, .. (30 at most): a RATE, w and d."
    private static void mostLoadsAreThirty() {
        FreightRates x = nine(0, 1);
        int sum = 0;
        for (int i = 0; i < 30; i++) {
            due("30 LOADS: so many ahead of " + i, i, x.count(1));
            due("30 LOADS: number " + i, i, x.load(RATE, i + 1, 1));
            sum += i + 1;
            due("30 LOADS: the bill of " + (i + 1), sum, x.bill(RATE));
        }
        for (int i = 0; i < 3; i++) {
            due("30 LOADS: the 31st", FULL, x.load(RATE, 1000, 1000));
            due("30 LOADS: the 31st, of another RATE", FULL, x.load(ROAD, 1000, 1000));
        }
        due("30 LOADS: there are 30", 30, x.count(1));
        due("30 LOADS: the bill is as before", sum, x.bill(RATE));
        due("30 LOADS: none of another RATE", 0, x.bill(ROAD));
        FreightRates y = new FreightRates();
        for (int i = 0; i < 20; i++) {
            y.rate(RATE, 100 * i, 0);
        }
        for (int i = 0; i < 30; i++) {
            y.load(i % 20, 1, 1);
        }
        for (int i = 0; i < 20; i++) {
            due("30 LOADS of 20 RATES, " + i, i < 10 ? 2 * (1 + i) : 1 + i, y.bill(i));
        }
        FreightRates z = one(RATE, 0, 0);
        z.load(0, MIN, MAX);
        z.load(0, MAX, MIN);
        // MIN times MAX is MIN, twice it is 0; then the TOLLS and WAITS cancel each other.
        due("LOADS of any w and d", 0, z.bill(0));
    }

    // "TOTAL of each LOAD of it, in order, together"
    private static void aBillTakesItsOwnLoadsInOrder() {
        FreightRates x = nine(0, 0);
        due("a bill without a LOAD", 0, x.bill(RAIL));
        due("a bill without a LOAD asks for nothing", 0, x.count(2));
        x.load(ROAD, 1000, 1000);
        due("a bill of another's LOAD", 0, x.bill(RAIL));
        due("a bill of another's LOAD asks for nothing", 0, x.count(2));
        x.load(RAIL, 1, 1);
        x.load(ROAD, 1, 1);
        x.load(RAIL, 1, 0);
        x.load(RAIL, 2, 2);
        due("a bill of three", 0 + 1 + 2 + 1, x.bill(RAIL));
        dueTrail("a bill of three", x, "5 60 61 2 3 5 60 61 5 60 61 2 3");
        due("a bill leaves TALLY", 0, x.told(RAIL, 3));
        due("a bill leaves the LOADS", 5, x.count(1));
        due("a bill again", 4, x.bill(RAIL));
    }

    private static void aBillWraps() {
        FreightRates x = one(RATE, 0, 0);
        x.load(0, 1, D_OF_MAX);
        due("a bill of MAX", MAX, x.bill(0));
        x.load(0, 1, 1);
        due("a bill of MAX and 1", MIN, x.bill(0));
        x.load(0, 1, D_OF_MIN);
        due("a bill of MAX, 1 and MIN", 0, x.bill(0));
        x.load(0, 1, D_OF_MIN);
        due("a bill of MAX, 1, MIN and MIN", MIN, x.bill(0));
        x.load(0, 1, -1);
        due("a bill below MIN", MAX, x.bill(0));
        FreightRates y = one(RATE, 0, 0);
        for (int i = 0; i < 30; i++) {
            y.load(0, 1, D_OF_MAX);
        }
        due("a bill of 30 times MAX", -30, y.bill(0));
        FreightRates z = one(RATE, 100, 0);
        // A refusal's number, but none: d, d / 10 and 1.
        z.load(0, 1, -1818181820);
        due("a bill may be -2000000001", -2000000001, z.bill(0));
        due("a bill of -2000000001 was asked", 5, z.count(2));
    }

    // "one that is ZERO counts for nothing, and is told as FAILED"
    private static void zeroLoadsCountForNothing() {
        for (int failing = 0; failing <= 30; failing++) {
            FreightRates x = one(RAIL, 0, 0);
            for (int i = 0; i < 30; i++) {
                x.load(0, 3, i < failing ? 0 : 1);
            }
            due("a bill with " + failing + " ZERO", 3 * (30 - failing), x.bill(0));
            due("a bill with " + failing + " ZERO: failed", failing, x.failed());
            due("a bill with " + failing + " ZERO: count(3)", failing, x.count(3));
            due("a bill with " + failing + " ZERO: LOADS", 30, x.count(1));
        }
        FreightRates x = one(RAIL, 0, 0);
        x.load(0, 3, 1);
        x.load(0, 3, 0);
        due("ZERO as the last LOAD", 3, x.bill(0));
        due("ZERO as the last LOAD: failed", 1, x.failed());
        FreightRates y = one(RAIL, 0, 0);
        y.load(0, 3, 0);
        // d / 2 is 0 as well, so WAIT alone could have counted.
        y.load(0, 9000, 0);
        due("nothing but ZERO", 0, y.bill(0));
        due("nothing but ZERO: failed", 2, y.failed());
    }

    // Promise 11: "How many LOADS the latest bill() told as FAILED (0 ahead of one)."
    private static void failedTellsOfTheLatestBill() {
        FreightRates x = nine(0, 0);
        x.load(RAIL, 1, 0);
        x.load(RAIL, 2, 0);
        x.load(WAGON, 1, 0);
        due("failed ahead of a bill", 0, x.failed());
        ask(x, RAIL, TOTAL, 1, 0);
        due("failed: not of ask()", 0, x.failed());
        x.cheapest(1, 0);
        due("failed: not of cheapest()", 0, x.failed());
        x.bill(RAIL);
        due("failed: 2", 2, x.failed());
        x.bill(RAIL);
        due("failed: the latest alone", 2, x.failed());
        x.bill(WAGON);
        due("failed: 1", 1, x.failed());
        for (int rate : new int[] {MIN, -1, 9, 20, MAX}) {
            due("failed: a refused bill", FAR_UNKNOWN, x.bill(rate));
            due("failed: as before a refused bill", 1, x.failed());
        }
        x.load(RAIL, 3, 0);
        due("failed: not of load()", 1, x.failed());
        x.cheapest(1, 0);
        due("failed: not of cheapest(), behind a bill", 1, x.failed());
        x.bill(RATE);
        due("failed: of a bill without a LOAD", 0, x.failed());
        x.bill(RAIL);
        due("failed: 3", 3, x.failed());
        x.clear();
        due("failed: behind clear()", 0, x.failed());
    }

    // "of all RATES, by numbers, the first with the least TOTAL"
    private static void theCheapestIsTheFirstWithTheLeast() {
        FreightRates x = one(RATE, 0, 0);
        due("the cheapest of one, MAX", 0, x.cheapest(1, D_OF_MAX));
        due("the cheapest of one, MIN", 0, x.cheapest(1, D_OF_MIN));
        due("the cheapest of one, 0", 0, x.cheapest(0, 0));
        due("the cheapest of one, -5", 0, x.cheapest(1, -5));
        x.rate(RATE, 99, 0);
        due("the first of two MAX", 0, x.cheapest(1, D_OF_MAX));
        due("the first of two MIN", 0, x.cheapest(1, D_OF_MIN));
        due("the first of two 0", 0, x.cheapest(0, 0));
        x.rate(RATE, 100, 0);
        due("one above MAX is MIN, the least", 2, x.cheapest(1, D_OF_MAX));
        due("one above the least", 0, x.cheapest(0, 0));
        FreightRates y = new FreightRates();
        y.rate(RATE, 200, 0);
        y.rate(RATE, 100, 0);
        y.rate(RATE, 100, 0);
        y.rate(RATE, 200, 0);
        due("the least in the middle", 1, y.cheapest(0, 0));
        y.become(0, 100, 0);
        due("the first is as cheap", 0, y.cheapest(0, 0));
        y.become(3, 0, 0);
        due("the last is cheaper by 1", 3, y.cheapest(0, 0));
        due("the last is MIN's neighbour", 3, y.cheapest(1, D_OF_MIN));
        due("asked four each time", 4 * 4 * 5, y.count(2));
        due("the cheapest leaves TALLY", 0, y.told(0, 3));
    }

    // "those with ZERO are passed over"; "NONE: there is none, or all are ZERO"
    private static void theCheapestPassesOverZero() {
        FreightRates x = new FreightRates();
        due("the cheapest of none", NONE, x.cheapest(1, 1));
        for (int i = 0; i < 20; i++) {
            x.rate(i % 2 == 0 ? RAIL : WAGON, 0, 0);
            due("all " + (i + 1) + " are ZERO", NONE, x.cheapest(1, 0));
            due("all " + (i + 1) + " are counted", (i + 1) * (i + 2) / 2, x.count(3));
        }
        due("without ZERO the first", 0, x.cheapest(1, 1));
        for (int at = 0; at < 20; at++) {
            FreightRates y = new FreightRates();
            for (int i = 0; i < 20; i++) {
                y.rate(i == at ? ACID : RAIL, 100000, 0);
            }
            due("the only one that is not ZERO", at, y.cheapest(1, 0));
            due("the others are counted", 19, y.count(3));
        }
        FreightRates z = new FreightRates();
        z.rate(RATE, 300, 0);
        z.rate(RAIL, 0, 0);
        z.rate(RATE, 200, 0);
        due("a ZERO between is none of 0", 2, z.cheapest(1, 0));
        FreightRates v = new FreightRates();
        v.rate(RATE, 100000, 0);
        v.rate(SEALED, 1000, 0);
        due("SEALED's VALUE is no ZERO, and as much", 0, v.cheapest(1, 0));
        v.become(1, 999, 0);
        due("SEALED's VALUE is 1 less", 1, v.cheapest(1, 0));
    }

    private static void theCheapestOfTwenty() {
        FreightRates x = new FreightRates();
        for (int i = 0; i < 20; i++) {
            x.rate(RATE, 100 * (20 - i), 0);
            due("the latest of " + (i + 1), i, x.cheapest(0, 0));
        }
        x.become(0, 100, 0);
        due("the first, as cheap as the 20th", 0, x.cheapest(0, 0));
    }

    // Promise 4: "0: UNKNOWN."
    private static void taxOfNoRate() {
        FreightRates x = nine(0, 0);
        for (int rate : new int[] {MIN, -1, 9, 10, 19, 20, MAX}) {
            due("TAX of no RATE " + rate, 0, x.tax(rate, MAX));
        }
        due("TAX of no RATE puts nothing down", 0, x.count(2));
        due("TAX of the last RATE", 23, x.tax(8, 100));
        due("TAX may be 0", 0, x.tax(0, 4));
        due("a TAX of 0 was asked", 3, x.count(2));
    }

    // Promise 5: "told as -2000000001, -2000000003": what is true may be -1 or -3, and even these.
    private static void grossAtTheEdges() {
        FreightRates x = nine(0, 0);
        due("GROSS of 0", 0, x.gross(ROAD, 0));
        due("GROSS of 4", 4, x.gross(ROAD, 4));
        due("GROSS of 5", 6, x.gross(ROAD, 5));
        due("GROSS of -1", -1, x.gross(ROAD, -1));
        due("GROSS of -2", -2, x.gross(ROAD, -2));
        due("GROSS of -3", -3, x.gross(ROAD, -3));
        due("GROSS of 0, COLD", -1, x.gross(COLD, 0));
        due("GROSS of 0, WAGON", 0, x.gross(WAGON, 0));
        due("GROSS of 0, SEALED", 7, x.gross(SEALED, 0));
        int down = x.count(2);
        due("GROSS may be -2000000001", -2000000001, x.gross(ROAD, -1666666668));
        due("GROSS of -2000000001 was asked", down + 1, x.count(2));
        due("GROSS may be -2000000003", -2000000003, x.gross(COLD, -1666666669));
        due("GROSS of -2000000003 was asked", down + 3, x.count(2));
    }

    // Promise 6: "LATE of h (0 .. 1000)"
    private static void lateTakesNoughtToThousand() {
        FreightRates x = new FreightRates();
        x.rate(COLD, 0, 0);
        x.rate(SWIFT, 0, 0);
        x.rate(COLD, 0, 99);
        x.rate(SWIFT, 0, 99);
        int[] hs = {0, 1, 2, 999, 1000};
        int[][] late = {{0, 1, 2, 999, 1000}, {0, -1, 0, -1, 0}, {198, 199, 200, 1197, 1198}, {98, 99, 98, 99, 98}};
        for (int rate = 0; rate < 4; rate++) {
            for (int i = 0; i < hs.length; i++) {
                due("LATE of " + hs[i] + ", RATE " + rate, late[rate][i], x.late(rate, hs[i]));
            }
            int down = x.count(2);
            for (int h : new int[] {MIN, -1000, -1, 1001, 1002, MAX}) {
                due("LATE of " + h + ", RATE " + rate, FAR_OUTSIDE, x.late(rate, h));
            }
            due("LATE outside puts nothing down", down, x.count(2));
        }
    }

    // Promise 7: "what = 0 its KIND .. 6 how many KINDS stand over its KIND"
    private static void toldTakesNoughtToSix() {
        FreightRates x = one(SWIFT, 100000, 99);
        ask(x, 0, NOTE, 0, 0);
        int[] want = {5, 100000, 99, 2, 1, 1, 3};
        for (int what = 0; what <= 6; what++) {
            due("told(0, " + what + ")", want[what], x.told(0, what));
        }
        for (int what : new int[] {MIN, -1, 7, 8, MAX}) {
            due("told(0, " + what + ")", OUTSIDE, x.told(0, what));
        }
    }

    // Promise 8: "VALUE and HOURS of a RATE become others: 1."
    private static void becomeAtTheEdges() {
        FreightRates x = nine(700, 7);
        x.load(SEALED, 10, 10);
        due("the bill ahead of become", 50 + 700 + 11 + 2, x.bill(SEALED));
        due("become the same", 1, x.become(SEALED, 700, 7));
        due("become others", 1, x.become(SEALED, 100000, 99));
        due("the bill behind become", 50 + 100000 + 11 + 10, x.bill(SEALED));
        due("become ZERO", 1, x.become(SEALED, 5, 0));
        due("the bill of VALUE for ZERO", 5, x.bill(SEALED));
        for (int kind = 0; kind < SEALED; kind++) {
            due("become leaves VALUE of KIND " + kind, 700, x.told(kind, 1));
            due("become leaves HOURS of KIND " + kind, 7, x.told(kind, 2));
        }
        due("become leaves KIND", SEALED, x.told(SEALED, 0));
        int down = x.count(2);
        x.become(COLD, 0, 0);
        due("become puts nothing down", down, x.count(2));
        due("become: LATE by the new HOURS", 10, x.late(COLD, 10));
    }

    // Promise 14: "3 how often a way of ask(), bill(), cheapest() was ZERO"
    private static void countOfZeros() {
        FreightRates x = nine(900, 0);
        int zeros = 0;
        int[][] asked = {{RAIL, TOLL}, {WAGON, TOLL}, {SEALED, TOLL}, {WAGON, NOTE}, {SEALED, NOTE}, {RAIL, TOTAL},
            {WAGON, TOTAL}, {SEALED, COVER}};
        for (int[] a : asked) {
            due("count(3) of ask", ZERO, ask(x, a[0], a[1], 1, 0));
            zeros++;
            due("count(3) of ask, way " + a[1] + " of KIND " + a[0], zeros, x.count(3));
        }
        ask(x, SEALED, TOTAL, 1, 0);
        due("count(3): SEALED's TOTAL was none", zeros, x.count(3));
        ask(x, RAIL, BASE, 1, 0);
        ask(x, RAIL, 6, 1, 0);
        ask(x, 9, TOLL, 1, 0);
        x.tax(RAIL, 0);
        x.gross(WAGON, 0);
        x.late(COLD, 0);
        due("count(3): none behind a ZERO", zeros, x.count(3));
        x.load(RAIL, 1, 0);
        x.load(RAIL, 1, 1);
        x.load(WAGON, 1, 0);
        x.load(SEALED, 1, 0);
        due("count(3): none by load()", zeros, x.count(3));
        x.bill(RAIL);
        due("count(3) of a bill", zeros + 1, x.count(3));
        x.bill(SEALED);
        due("count(3): none of SEALED's bill", zeros + 1, x.count(3));
        x.cheapest(1, 0);
        due("count(3) of the cheapest", zeros + 3, x.count(3));
        x.cheapest(1, 1);
        due("count(3): none without a ZERO", zeros + 3, x.count(3));
        x.bill(99);
        due("count(3): none of a refused bill", zeros + 3, x.count(3));
    }

    private static void countTakesNoughtToThree() {
        for (FreightRates x : new FreightRates[] {new FreightRates(), nine(5, 0)}) {
            for (int what : new int[] {MIN, -1, 4, 5, MAX}) {
                due("count(" + what + ")", OUTSIDE, x.count(what));
            }
        }
        FreightRates x = nine(5, 0);
        x.load(RAIL, 1, 0);
        x.load(RAIL, 1, 0);
        ask(x, RAIL, TOLL, 1, 0);
        int[] want = {9, 2, 1, 1};
        for (int what = 0; what <= 3; what++) {
            due("count(" + what + ")", want[what], x.count(what));
        }
    }

    // Promise 15: "All is as at the beginning: how many RATES there were."
    private static void clearOfEverything() {
        FreightRates x = new FreightRates();
        for (int round = 0; round < 3; round++) {
            for (int i = 0; i < 20; i++) {
                due("clear: RATE " + i, i, x.rate(i == 0 ? WAGON : RAIL, 0, 0));
            }
            for (int i = 0; i < 30; i++) {
                due("clear: LOAD " + i, i, x.load(1, 1, 0));
            }
            due("clear: TALLY at first", 0, x.told(0, 3));
            ask(x, 0, NOTE, 1, 1);
            x.bill(1);
            due("clear: failed", 30, x.failed());
            due("clear: count(3)", 30, x.count(3));
            due("clear: count(2)", 92, x.count(2));
            due("clear: 20 there were", 20, x.clear());
            due("clear: none there were", 0, x.clear());
            due("clear: failed is 0", 0, x.failed());
        }
        dueNothing("cleared", x);
        due("clear: a RATE again", 0, x.rate(RAIL, 0, 0));
        due("clear: another RATE", 1, x.rate(RAIL, 0, 0));
        due("clear: none of the old LOADS", 0, x.bill(1));
        due("clear: none of the old trail", NONE, x.trail(0));
        due("clear: a LOAD again", 0, x.load(1, 6, 2));
        due("clear: its bill", 6 + 3, x.bill(1));
        dueTrail("clear: the trail from its beginning", x, "5 60 61 2 3");
        due("clear: none failed", 0, x.failed());
        due("clear: two there were", 2, x.clear());
        // After a ZERO that was the last thing before clear():
        x.rate(RAIL, 0, 0);
        ask(x, 0, TOLL, 1, 0);
        due("clear: behind ZERO", 1, x.clear());
        x.rate(RATE, 0, 0);
        due("clear: no ZERO from before", 1, ask(x, 0, BASE, 1, 1));
        due("clear: no ZERO counted", 0, x.count(3));
    }

    // "An object is used for at most 512 calls after it has been made"
    private static void fiveHundredAndTwelveCalls() {
        FreightRates x = new FreightRates();
        x.rate(ACID, 0, 0);
        for (int i = 0; i < 30; i++) {
            x.load(0, 0, 0);
        }
        for (int i = 0; i < 479; i++) {
            due("bill " + i, 30 * 34, x.bill(0));
        }
        due("call 511", 30 * 479 * 11, x.count(2));
        due("call 512", 31, x.trail(39));
        FreightRates y = one(WAGON, 0, 0);
        for (int i = 1; i < 510; i++) {
            due("ZERO " + i, ZERO, ask(y, 0, NOTE, 1, 0));
        }
        due("call 511 of ZEROS", 509, y.count(3));
        due("call 512 of ZEROS", 5090, y.told(0, 3));
        FreightRates z = new FreightRates();
        for (int i = 0; i < 510; i++) {
            due("empty clear " + i, 0, z.clear());
        }
        due("call 511 of clears", 0, z.rate(SEALED, 1, 1));
        due("call 512 of clears", 1, z.clear());
    }
}
