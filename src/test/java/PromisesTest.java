import java.util.function.IntSupplier;

/** For each of the document's promises: ordinary inputs, its edges, wrong inputs and their order. */
public final class PromisesTest {
    private static final int MAX = Integer.MAX_VALUE, MIN = Integer.MIN_VALUE;
    private static final int FAR_UNKNOWN = -2000000001, FAR_OUTSIDE = -2000000002, FAR_STATE = -2000000003;
    private static final int RATE = 0, ROAD = 1, TANK = 2, ACID = 3, COLD = 4, SWIFT = 5, RAIL = 6, WAGON = 7, SEALED = 8;
    private static final int BASE = 0, TOLL = 1, COVER = 2, WAIT = 3, NOTE = 4, TOTAL = 5;

    private static int wrong = 0;

    private static void due(String what, int want, int got) {
        if (want != got) {
            wrong++;
            System.out.println(what + ": answered " + got + ", due is " + want);
        }
    }

    private static void throwsExactly(String what, Class<?> want, IntSupplier call) {
        Class<?> got = null;
        try {
            call.getAsInt();
        } catch (RuntimeException e) {
            got = e.getClass();
        }
        if (got != want) {
            wrong++;
            System.out.println(what + ": threw " + got + ", due is " + want);
        }
    }

    private static void zero(String what, IntSupplier call) {
        throwsExactly(what, ArithmeticException.class, call);
    }

    /** One RATE of each KIND, its number the KIND's. */
    private static FreightRates nine(int value, int hours) {
        FreightRates x = new FreightRates();
        for (int kind = 0; kind <= 8; kind++) {
            x.rate(kind, value, hours);
        }
        return x;
    }

    /** The latest of the trail, as they were put down, and how many there are in all. */
    private static void dueTrail(String what, FreightRates x, int inAll, int... latest) {
        due(what + ": count(2)", inAll, x.count(2));
        for (int i = 0; i < latest.length; i++) {
            due(what + ": trail(" + i + ")", latest[latest.length - 1 - i], x.trail(i));
        }
    }

    private static void dueWay(int way, int value, int hours, int w, int d, int... byKind) {
        FreightRates x = nine(value, hours);
        for (int kind = 0; kind <= 8; kind++) {
            due("way " + way + " of KIND " + kind, byKind[kind], x.ask(kind, way, w, d));
        }
    }

    public static void main(String[] args) {
        promise1NewObject();
        promise2Rate();
        promise3AskAnswers();
        promise3AskTally();
        promise3AskWraps();
        promise3AskZero();
        promise3AskRefusals();
        promise4Tax();
        promise5Gross();
        promise6Late();
        promise7Told();
        promise8Become();
        promise9Load();
        promise10Bill();
        promise11Failed();
        promise12Cheapest();
        promise13TrailOfWays();
        promise13TrailOfTotals();
        promise13TrailOfFaces();
        promise13TrailEdges();
        promise14Count();
        promise15Clear();
        refusedChangesNothing();
        System.out.println(wrong == 0 ? "all promises hold" : wrong + " answers are not as due");
        if (wrong != 0) {
            System.exit(1);
        }
    }

    private static void promise1NewObject() {
        due("UNKNOWN", -1, FreightRates.UNKNOWN);
        due("OUTSIDE", -2, FreightRates.OUTSIDE);
        due("STATE", -3, FreightRates.STATE);
        due("FULL", -4, FreightRates.FULL);
        due("NONE", -5, FreightRates.NONE);
        FreightRates x = new FreightRates();
        for (int what = 0; what <= 3; what++) {
            due("1: count(" + what + ")", 0, x.count(what));
        }
        due("1: trail(0)", -5, x.trail(0));
        due("1: failed()", 0, x.failed());
        due("1: told(0, 0)", -1, x.told(0, 0));
        due("1: cheapest(1, 1)", -5, x.cheapest(1, 1));
        due("1: load(0, 1, 1)", -1, x.load(0, 1, 1));
        due("1: clear()", 0, x.clear());
        FreightRates y = new FreightRates();
        y.rate(RATE, 1, 1);
        y.ask(0, BASE, 1, 1);
        due("1: objects share no RATES", 0, x.count(0));
        due("1: objects share no trail", 0, x.count(2));
    }

    private static void promise2Rate() {
        FreightRates x = new FreightRates();
        due("2: kind -1", -2, x.rate(-1, 0, 0));
        due("2: kind 9", -2, x.rate(9, 0, 0));
        due("2: kind MIN", -2, x.rate(MIN, 0, 0));
        due("2: value -1", -2, x.rate(0, -1, 0));
        due("2: value 100001", -2, x.rate(0, 100001, 0));
        due("2: hours -1", -2, x.rate(0, 0, -1));
        due("2: hours 100", -2, x.rate(0, 0, 100));
        due("2: none was made", 0, x.count(0));
        due("2: lowest", 0, x.rate(0, 0, 0));
        due("2: highest", 1, x.rate(8, 100000, 99));
        due("2: value 0 stands", 0, x.told(0, 1));
        due("2: value 100000 stands", 100000, x.told(1, 1));
        due("2: hours 99 stand", 99, x.told(1, 2));
        for (int i = 2; i < 20; i++) {
            due("2: number " + i, i, x.rate(i % 9, 5, 5));
        }
        due("2: the 21st", -4, x.rate(0, 0, 0));
        due("2: OUTSIDE ahead of FULL", -2, x.rate(0, 0, 100));
        due("2: 20 there are", 20, x.count(0));
        due("2: the 20th stands", 19 % 9, x.told(19, 0));
        due("2: no 21st", -1, x.told(20, 0));
    }

    private static void promise3AskAnswers() {
        dueWay(BASE, 1500, 7, 30, 71, 2130, 2130, 3630, 3630, 2130, 4260, 1050, 1050, 2550);
        dueWay(BASE, 1500, 7, 3, -71, -213, -213, -63, -63, -213, -426, -105, -105, 1395);
        dueWay(TOLL, 1500, 7, 700, 79, 7, 12, 12, 36, 12, 12, 8, 8, 708);
        dueWay(TOLL, 1500, 7, 700, -79, -7, -2, -2, -6, -2, -2, -8, -8, 692);
        dueWay(COVER, 1599, 7, 1, 1, 15, 15, 15, 45, 22, 11, 15, 22, 3);
        dueWay(COVER, 99, 1, 0, 0, 0, 0, 0, 0, 1, 0, 0, 7, 7);
        dueWay(COVER, 100000, 99, 0, 0, 1000, 1000, 1000, 3000, 1099, 549, 1000, 1007, 10);
        dueWay(WAIT, 1500, 7, 2999, 1, 2, 12, 12, 12, 12, 5, 2, 2, 4);
        dueWay(WAIT, 1500, 99, -2999, 1, -2, 8, 8, 8, 8, -91, -2, -2, -4);
        dueWay(NOTE, 1500, 7, 30, 7, 1, 1, 2, 102, 2, 32, 1, 15, 15);
        // BASE, TOLL, COVER and WAIT of each KIND, for w = 2100 and d = 70.
        dueWay(TOTAL, 1500, 7, 2100, 70,
                147000 + 7 + 15 + 2,
                147000 + 12 + 15 + 12,
                252000 + 12 + 15 + 12,
                252000 + 36 + 45 + 12 + 9,
                147000 + 12 + 22 + 12,
                294000 + 12 + 11 + 5,
                73500 + 30 + 15 + 2,
                73500 + 30 + 22 + 2,
                75000 + 2130 + 3 + 4);
    }

    private static void promise3AskTally() {
        FreightRates x = nine(10, 1);
        int[] first = {1, 1, 2, 102, 2, 2, 1, 11, 11};
        int[] second = {2, 2, 4, 104, 6, 6, 2, 22, 22};
        int[] tally = {2, 2, 4, 4, 6, 6, 2, 22, 22};
        for (int kind = 0; kind <= 8; kind++) {
            due("3: first NOTE of KIND " + kind, first[kind], x.ask(kind, NOTE, 0, 5));
            due("3: second NOTE of KIND " + kind, second[kind], x.ask(kind, NOTE, 0, 5));
            due("3: TALLY of KIND " + kind, tally[kind], x.told(kind, 3));
        }
        for (int way = 0; way <= 5; way++) {
            if (way != NOTE) {
                x.ask(TANK, way, 3, 3);
            }
        }
        due("3: NOTE alone counts", 4, x.told(TANK, 3));
    }

    private static void promise3AskWraps() {
        FreightRates x = nine(100000, 99);
        due("3: w times d wraps", 1, x.ask(RATE, BASE, MAX, MAX));
        due("3: 50 times w wraps", MAX * MAX + 50 * MAX, x.ask(TANK, BASE, MAX, MAX));
        due("3: MIN times -1 wraps", MIN, x.ask(RATE, BASE, MIN, -1));
        due("3: MIN by -1 wraps", MIN, x.ask(RAIL, TOLL, MIN, -1));
        due("3: 2 times up wraps", 2, x.ask(SWIFT, BASE, MAX, MAX));
        due("3: 3 times up of the longest way", 3 * (MAX / 10 + 5), x.ask(ACID, TOLL, 0, MAX));
        due("3: up and w wraps", MIN + MIN, x.ask(SEALED, TOLL, MIN, -1));
        due("3: TOTAL wraps", MAX * 999991 + 99999 + 1000 + 2147483, x.ask(RATE, TOTAL, MAX, 999991));
        FreightRates y = new FreightRates();
        y.rate(COLD, 0, 0);
        int tally = 0;
        for (int i = 0; i < 40; i++) {
            tally = 2 * (tally + 1);
            due("3: TALLY doubles and wraps, " + i, tally, y.ask(0, NOTE, 0, 0));
        }
    }

    private static void promise3AskZero() {
        FreightRates x = nine(4321, 0);
        for (int kind : new int[] {RAIL, WAGON, SEALED}) {
            zero("3: TOLL of KIND " + kind + " for d = 0", () -> x.ask(kind, TOLL, 5, 0));
        }
        zero("3: TOTAL of RAIL for d = 0", () -> x.ask(RAIL, TOTAL, 5, 0));
        zero("3: TOTAL of WAGON for d = 0", () -> x.ask(WAGON, TOTAL, 5, 0));
        zero("3: COVER of SEALED without HOURS", () -> x.ask(SEALED, COVER, 5, 5));
        due("3: TOTAL of SEALED for d = 0 is VALUE", 4321, x.ask(SEALED, TOTAL, 5, 0));
        due("3: TOTAL of SEALED without HOURS is VALUE", 4321, x.ask(SEALED, TOTAL, 5, 5));
        due("3: a way behind ZERO is none", 25, x.ask(RATE, BASE, 5, 5));
        due("3: RAIL's NOTE divides by nothing", 1, x.ask(RAIL, NOTE, 5, 0));
        zero("3: NOTE of WAGON for d = 0", () -> x.ask(WAGON, NOTE, 5, 0));
        due("3: what it did ahead stays", 10, x.told(WAGON, 3));
        zero("3: NOTE of SEALED for d = 0", () -> x.ask(SEALED, NOTE, 5, 0));
        due("3: what SEALED did ahead stays", 10, x.told(SEALED, 3));
        due("3: w / d and up, behind ZERO", 3 + 21, x.ask(WAGON, NOTE, 10, 3));
        due("3: TALLY behind ZERO", 21, x.told(WAGON, 3));
        for (int kind = 0; kind <= SWIFT; kind++) {
            due("3: no ZERO on the ROAD, KIND " + kind, x.ask(kind, TOTAL, 0, 0), x.ask(kind, TOTAL, 0, 0));
        }
    }

    private static void promise3AskRefusals() {
        FreightRates x = nine(0, 0);
        Class<?> noRate = ArrayIndexOutOfBoundsException.class;
        Class<?> noWay = IllegalArgumentException.class;
        for (int rate : new int[] {-1, 9, 20, MIN, MAX}) {
            throwsExactly("3: ask of RATE " + rate, noRate, () -> x.ask(rate, BASE, 1, 1));
            throwsExactly("3: ask of RATE " + rate + ", no way", noRate, () -> x.ask(rate, 6, 1, 0));
        }
        for (int way : new int[] {-1, 6, 7, 8, MIN, MAX}) {
            throwsExactly("3: ask of way " + way, noWay, () -> x.ask(RAIL, way, 1, 0));
        }
        due("3: refused asks put nothing down", 0, x.count(2));
        due("3: refused asks are no ZERO", 0, x.count(3));
    }

    private static void promise4Tax() {
        FreightRates x = nine(5, 5);
        int[] of101 = {20, 20, 20, 20, 19, 19, 20, 20, 23};
        int[] ofMinus9 = {-1, -1, -1, -1, -2, -2, -1, -1, 2};
        for (int kind = 0; kind <= 8; kind++) {
            due("4: tax of 101, KIND " + kind, of101[kind], x.tax(kind, 101));
            due("4: tax of -9, KIND " + kind, ofMinus9[kind], x.tax(kind, -9));
            due("4: tax of MIN, KIND " + kind, MIN / 5 + of101[kind] - 20, x.tax(kind, MIN));
        }
        int down = x.count(2);
        due("4: RATE -1", 0, x.tax(-1, 100));
        due("4: RATE 9", 0, x.tax(9, 100));
        due("4: RATE MAX", 0, x.tax(MAX, 100));
        due("4: nothing was put down", down, x.count(2));
    }

    private static void promise5Gross() {
        FreightRates x = nine(5, 5);
        int[] of101 = {FAR_STATE, 121, 121, 121, 120, 120, FAR_STATE, 141, 148};
        int[] ofMax = {FAR_STATE, MAX + MAX / 5, MAX + MAX / 5, MAX + MAX / 5, MAX + MAX / 5 - 1, MAX + MAX / 5 - 1,
            FAR_STATE, MAX + 2 * (MAX / 5), MAX + 2 * (MAX / 5 + 3) + 1};
        for (int kind = 0; kind <= 8; kind++) {
            due("5: gross of 101, KIND " + kind, of101[kind], x.gross(kind, 101));
            due("5: gross of MAX, KIND " + kind, ofMax[kind], x.gross(kind, MAX));
        }
        due("5: gross may be -1", -1, x.gross(ROAD, -1));
        int down = x.count(2);
        due("5: RATE -1", FAR_UNKNOWN, x.gross(-1, 100));
        due("5: RATE 9", FAR_UNKNOWN, x.gross(9, 100));
        due("5: RATE not TAXED", FAR_STATE, x.gross(RATE, 100));
        due("5: RAIL not TAXED", FAR_STATE, x.gross(RAIL, 100));
        due("5: nothing was put down", down, x.count(2));
    }

    private static void promise6Late() {
        FreightRates x = nine(5, 6);
        for (int kind = 0; kind <= 8; kind++) {
            boolean timed = kind == COLD || kind == SWIFT;
            if (!timed) {
                due("6: late of KIND " + kind, FAR_STATE, x.late(kind, 7));
                due("6: OUTSIDE ahead of STATE, KIND " + kind, FAR_OUTSIDE, x.late(kind, 1001));
                due("6: OUTSIDE below, KIND " + kind, FAR_OUTSIDE, x.late(kind, -1));
            }
        }
        due("6: COLD", 19, x.late(COLD, 7));
        due("6: COLD at 0", 12, x.late(COLD, 0));
        due("6: COLD at 1000", 1012, x.late(COLD, 1000));
        due("6: SWIFT, cut", 5, x.late(SWIFT, 7));
        due("6: SWIFT at 0", 6, x.late(SWIFT, 0));
        due("6: SWIFT at 1000", 6, x.late(SWIFT, 1000));
        int down = x.count(2);
        due("6: h -1", FAR_OUTSIDE, x.late(COLD, -1));
        due("6: h 1001", FAR_OUTSIDE, x.late(SWIFT, 1001));
        due("6: h MIN", FAR_OUTSIDE, x.late(COLD, MIN));
        due("6: RATE 9", FAR_UNKNOWN, x.late(9, 7));
        due("6: UNKNOWN ahead of OUTSIDE", FAR_UNKNOWN, x.late(-1, 1001));
        due("6: nothing was put down", down, x.count(2));
        x.become(SWIFT, 0, 0);
        due("6: SWIFT of 1 without HOURS", -1, x.late(SWIFT, 1));
    }

    private static void promise7Told() {
        FreightRates x = new FreightRates();
        int[] taxed = {0, 1, 1, 1, 1, 1, 0, 1, 1};
        int[] timed = {0, 0, 0, 0, 1, 1, 0, 0, 0};
        int[] over = {0, 1, 2, 3, 2, 3, 1, 2, 3};
        for (int kind = 0; kind <= 8; kind++) {
            x.rate(kind, 100 + kind, 10 + kind);
        }
        for (int kind = 0; kind <= 8; kind++) {
            int[] want = {kind, 100 + kind, 10 + kind, 0, taxed[kind], timed[kind], over[kind]};
            for (int what = 0; what <= 6; what++) {
                due("7: told(" + kind + ", " + what + ")", want[what], x.told(kind, what));
            }
        }
        x.ask(RATE, NOTE, 0, 0);
        due("7: TALLY", 1, x.told(RATE, 3));
        due("7: TALLY of another one", 0, x.told(ROAD, 3));
        due("7: what -1", -2, x.told(0, -1));
        due("7: what 7", -2, x.told(0, 7));
        due("7: what MIN", -2, x.told(0, MIN));
        due("7: RATE 9", -1, x.told(9, 0));
        due("7: RATE -1", -1, x.told(-1, 0));
        due("7: UNKNOWN ahead of OUTSIDE", -1, x.told(9, 7));
    }

    private static void promise8Become() {
        FreightRates x = nine(100, 10);
        x.ask(SEALED, NOTE, 0, 1);
        due("8: become", 1, x.become(SEALED, 700, 2));
        due("8: VALUE", 700, x.told(SEALED, 1));
        due("8: HOURS", 2, x.told(SEALED, 2));
        due("8: TALLY stays", 11, x.told(SEALED, 3));
        due("8: KIND stays", SEALED, x.told(SEALED, 0));
        due("8: another one's VALUE", 100, x.told(WAGON, 1));
        due("8: COVER of the new ones", 7, x.ask(SEALED, COVER, 0, 0));
        due("8: lowest", 1, x.become(0, 0, 0));
        due("8: lowest VALUE", 0, x.told(0, 1));
        due("8: lowest HOURS", 0, x.told(0, 2));
        due("8: highest", 1, x.become(0, 100000, 99));
        due("8: highest VALUE", 100000, x.told(0, 1));
        due("8: highest HOURS", 99, x.told(0, 2));
        due("8: value -1", -2, x.become(0, -1, 0));
        due("8: value 100001", -2, x.become(0, 100001, 0));
        due("8: hours -1", -2, x.become(0, 0, -1));
        due("8: hours 100", -2, x.become(0, 0, 100));
        due("8: RATE 9", -1, x.become(9, 0, 0));
        due("8: UNKNOWN ahead of OUTSIDE", -1, x.become(-1, -1, -1));
        due("8: VALUE stays", 100000, x.told(0, 1));
        due("8: HOURS stay", 99, x.told(0, 2));
    }

    private static void promise9Load() {
        FreightRates x = nine(0, 0);
        due("9: RATE 9", -1, x.load(9, 1, 1));
        due("9: RATE -1", -1, x.load(-1, 1, 1));
        due("9: none was made", 0, x.count(1));
        for (int i = 0; i < 30; i++) {
            due("9: number " + i, i, x.load(i % 9, i == 0 ? MIN : MAX, i == 0 ? MAX : MIN));
        }
        due("9: the 31st", -4, x.load(0, 1, 1));
        due("9: UNKNOWN ahead of FULL", -1, x.load(9, 1, 1));
        due("9: 30 there are", 30, x.count(1));
        due("9: nothing was put down", 0, x.count(2));
    }

    private static void promise10Bill() {
        FreightRates x = nine(1200, 4);
        due("10: without a LOAD", 0, x.bill(RATE));
        x.load(RATE, 10, 10);
        x.load(ROAD, 1000, 1000);
        x.load(RATE, 20, 30);
        x.load(RAIL, 10, 0);
        x.load(RAIL, 10, 10);
        x.load(RAIL, 20, 0);
        x.load(SEALED, 10, 0);
        x.load(RATE, 10, 10);
        due("10: RATE", 113 + 615 + 113, x.bill(RATE));
        due("10: ROAD", 1000000 + 105 + 12 + 11, x.bill(ROAD));
        due("10: RAIL without the ZERO ones", 50 + 1 + 12, x.bill(RAIL));
        due("10: SEALED", 1200, x.bill(SEALED));
        due("10: TANK without a LOAD", 0, x.bill(TANK));
        x.become(RATE, 0, 0);
        due("10: of today's VALUE", 101 + 603 + 101, x.bill(RATE));
        due("10: RATE 9", FAR_UNKNOWN, x.bill(9));
        due("10: RATE -1", FAR_UNKNOWN, x.bill(-1));
        due("10: RATE MAX", FAR_UNKNOWN, x.bill(MAX));

        FreightRates y = new FreightRates();
        y.rate(RATE, 0, 0);
        y.rate(RAIL, 0, 0);
        for (int i = 0; i < 29; i++) {
            y.load(0, 100000000, 1);
        }
        y.load(1, 1, 0);
        due("10: the sum wraps", 29 * 100100000, y.bill(0));
        due("10: the 30th LOAD", 0, y.bill(1));
        due("10: the 30th LOAD failed", 1, y.failed());
    }

    private static void promise11Failed() {
        FreightRates x = nine(1200, 4);
        x.load(RAIL, 1, 0);
        x.load(WAGON, 1, 0);
        x.load(RAIL, 1, 1);
        x.load(RAIL, 2, 0);
        x.load(SEALED, 1, 0);
        due("11: ahead of a bill", 0, x.failed());
        x.bill(RAIL);
        due("11: RAIL", 2, x.failed());
        due("11: told again", 2, x.failed());
        x.bill(9);
        due("11: a refused bill tells none", 2, x.failed());
        x.cheapest(1, 0);
        due("11: cheapest tells none", 2, x.failed());
        zero("11: ask", () -> x.ask(RAIL, TOTAL, 1, 0));
        due("11: ask tells none", 2, x.failed());
        x.bill(WAGON);
        due("11: WAGON", 1, x.failed());
        x.bill(SEALED);
        due("11: SEALED's ZERO is its VALUE", 0, x.failed());
        x.bill(WAGON);
        x.bill(RATE);
        due("11: without a LOAD", 0, x.failed());
        x.bill(RAIL);
        x.clear();
        due("11: behind clear", 0, x.failed());
    }

    private static void promise12Cheapest() {
        FreightRates x = new FreightRates();
        due("12: none there", -5, x.cheapest(1, 1));
        x.rate(RAIL, 100, 1);
        x.rate(WAGON, 100, 1);
        due("12: all are ZERO", -5, x.cheapest(1, 0));
        due("12: both counted as ZERO", 2, x.count(3));
        x.rate(ROAD, 5000, 1);
        due("12: ZERO passed over", 2, x.cheapest(1, 0));
        due("12: the first one", 0, x.cheapest(2, 2));
        x.rate(RATE, 200, 1);
        x.rate(RATE, 0, 1);
        x.rate(RATE, 0, 1);
        due("12: the first with the least", 4, x.cheapest(2, 0));

        FreightRates y = nine(1000, 10);
        // TOTAL of TANK and ACID has 50 times w more than ROAD's.
        due("12: TANK far below 0", TANK, y.cheapest(-100, 0));
        due("12: SWIFT far below 0", SWIFT, y.cheapest(-1000, 1000));
        due("12: RAIL for long ways", RAIL, y.cheapest(1000, 1000));

        FreightRates z = new FreightRates();
        for (int i = 0; i < 19; i++) {
            z.rate(RATE, 500, 0);
        }
        z.rate(RATE, 400, 0);
        due("12: the 20th", 19, z.cheapest(0, 0));
        z.become(0, 400, 0);
        due("12: as cheap as the 20th, but first", 0, z.cheapest(0, 0));
        FreightRates v = new FreightRates();
        v.rate(ROAD, 0, 0);
        v.rate(TANK, 0, 0);
        due("12: a TOTAL that wraps below 0 is the least", 1, v.cheapest(MAX / 50, 0));
        due("12: 50 times w wraps to 0, so the first of two alike", 0, v.cheapest(MIN, 0));
        FreightRates u = new FreightRates();
        u.rate(SEALED, 0, 0);
        due("12: SEALED's VALUE for its ZERO", 0, u.cheapest(1, 0));
        due("12: that is no ZERO", 0, u.count(3));
    }

    private static void promise13TrailOfWays() {
        FreightRates x = nine(100, 1);
        x.ask(RATE, BASE, 1, 1);
        dueTrail("13: RATE BASE", x, 1, 0);
        x.ask(ACID, BASE, 1, 1);
        dueTrail("13: ACID BASE is TANK's", x, 3, 20, 0);
        x.ask(SWIFT, BASE, 1, 1);
        dueTrail("13: SWIFT BASE", x, 5, 50, 0);
        x.ask(SEALED, BASE, 1, 1);
        dueTrail("13: SEALED BASE, RAIL goes not up", x, 7, 0, 80, 60);
        x.ask(WAGON, BASE, 1, 1);
        dueTrail("13: WAGON BASE is RAIL's", x, 8, 60, 60);
        x.ask(ACID, TOLL, 1, 1);
        dueTrail("13: ACID TOLL", x, 11, 31, 11, 1);
        x.ask(SWIFT, TOLL, 1, 1);
        dueTrail("13: SWIFT TOLL is ROAD's", x, 13, 11, 1);
        x.ask(SEALED, TOLL, 1, 1);
        dueTrail("13: SEALED TOLL", x, 15, 1, 81, 61);
        x.ask(ACID, COVER, 1, 1);
        dueTrail("13: ACID COVER", x, 17, 32, 2);
        x.ask(SWIFT, COVER, 1, 1);
        dueTrail("13: SWIFT COVER", x, 20, 52, 42, 2);
        x.ask(SEALED, COVER, 1, 1);
        dueTrail("13: SEALED COVER", x, 23, 82, 72, 2);
        x.ask(RAIL, COVER, 1, 1);
        dueTrail("13: RAIL COVER is RATE's", x, 24, 2, 2);
        x.ask(SWIFT, WAIT, 1, 1);
        dueTrail("13: SWIFT WAIT", x, 27, 53, 13, 3);
        x.ask(SEALED, WAIT, 1, 1);
        dueTrail("13: SEALED WAIT", x, 29, 83, 3);
        x.ask(TANK, NOTE, 1, 1);
        dueTrail("13: TANK NOTE, up twice", x, 32, 24, 4, 4);
        x.ask(ACID, NOTE, 1, 1);
        dueTrail("13: ACID NOTE", x, 36, 34, 24, 4, 4);
        x.ask(SWIFT, NOTE, 1, 1);
        dueTrail("13: SWIFT NOTE", x, 39, 54, 44, 4);
        x.ask(SEALED, NOTE, 1, 1);
        dueTrail("13: SEALED NOTE is WAGON's", x, 41, 4, 74, 4);
    }

    private static void promise13TrailOfTotals() {
        FreightRates x = nine(100, 0);
        x.ask(ACID, TOTAL, 1, 1);
        dueTrail("13: ACID TOTAL", x, 11, 35, 5, 20, 0, 31, 11, 1, 32, 2, 13, 3);
        x.ask(SWIFT, TOTAL, 1, 1);
        dueTrail("13: SWIFT TOTAL", x, 22, 5, 50, 0, 11, 1, 52, 42, 2, 53, 13, 3);
        x.ask(SEALED, TOTAL, 1, 0);
        dueTrail("13: SEALED TOTAL, ZERO in TOLL", x, 28, 85, 5, 80, 60, 81, 61);
        x.ask(SEALED, TOTAL, 1, 1);
        dueTrail("13: SEALED TOTAL, ZERO in COVER", x, 37, 85, 5, 80, 60, 81, 61, 82, 72, 2);
        x.become(SEALED, 100, 1);
        x.ask(SEALED, TOTAL, 1, 1);
        dueTrail("13: SEALED TOTAL", x, 48, 85, 5, 80, 60, 81, 61, 82, 72, 2, 83, 3);
        zero("13: RAIL TOTAL", () -> x.ask(RAIL, TOTAL, 1, 0));
        dueTrail("13: RAIL TOTAL, ZERO", x, 51, 83, 3, 5, 60, 61);
        zero("13: WAGON NOTE", () -> x.ask(WAGON, NOTE, 1, 0));
        dueTrail("13: WAGON NOTE, ZERO", x, 52, 61, 74);
        x.ask(RATE, TOTAL, 1, 1);
        dueTrail("13: RATE TOTAL", x, 57, 5, 0, 1, 2, 3);
        x.load(RAIL, 1, 0);
        x.load(RATE, 1, 0);
        x.load(RAIL, 1, 1);
        x.bill(RAIL);
        dueTrail("13: a bill", x, 65, 3, 5, 60, 61, 5, 60, 61, 2, 3);
        FreightRates y = new FreightRates();
        y.rate(RAIL, 0, 0);
        y.rate(RATE, 0, 0);
        y.cheapest(1, 0);
        dueTrail("13: cheapest", y, 8, 5, 60, 61, 5, 0, 1, 2, 3);
    }

    private static void promise13TrailOfFaces() {
        FreightRates x = nine(100, 0);
        x.tax(SWIFT, 1);
        dueTrail("13: TAX of SWIFT is COLD's", x, 2, 46, 6);
        x.tax(SEALED, 1);
        dueTrail("13: TAX of SEALED", x, 4, 46, 6, 86, 6);
        x.gross(ROAD, 1);
        dueTrail("13: GROSS of ROAD is no KIND's own", x, 5, 86, 6, 6);
        x.gross(SWIFT, 1);
        dueTrail("13: GROSS of SWIFT", x, 7, 6, 6, 46, 6);
        x.gross(WAGON, 1);
        dueTrail("13: GROSS of WAGON", x, 9, 46, 6, 77, 6);
        x.gross(SEALED, 1);
        dueTrail("13: GROSS of SEALED", x, 13, 77, 6, 87, 77, 86, 6);
        x.late(COLD, 1);
        dueTrail("13: HOURED of COLD, once", x, 14, 6, 48);
        x.late(SWIFT, 1);
        dueTrail("13: HOURED of SWIFT, once", x, 16, 48, 58, 48);
    }

    private static void promise13TrailEdges() {
        FreightRates x = nine(0, 0);
        due("13: nothing there", -5, x.trail(0));
        x.ask(RATE, WAIT, 0, 0);
        due("13: one there", 3, x.trail(0));
        due("13: no second one", -5, x.trail(1));
        for (int i = 0; i < 38; i++) {
            x.ask(RATE, i % 4, 0, 0);
        }
        due("13: the first of 39", 3, x.trail(38));
        due("13: no 40th", -5, x.trail(39));
        x.ask(RATE, TOLL, 0, 0);
        due("13: the first of 40", 3, x.trail(39));
        due("13: not the 41st", -5, x.trail(40));
        x.ask(RATE, COVER, 0, 0);
        due("13: the latest of 41", 2, x.trail(0));
        due("13: the second of 41", 0, x.trail(39));
        due("13: the first of 41 is not told", -5, x.trail(40));
        due("13: trail(-1)", -5, x.trail(-1));
        due("13: trail(MIN)", -5, x.trail(MIN));
        due("13: trail(MAX)", -5, x.trail(MAX));
        for (int i = 0; i < 90; i++) {
            x.ask(RATE, i % 4, 0, 0);
        }
        for (int i = 0; i < 40; i++) {
            due("13: of 131, " + i, (89 - i) % 4, x.trail(i));
        }
        due("13: 131 in all", 131, x.count(2));
    }

    private static void promise14Count() {
        FreightRates x = nine(77, 0);
        due("14: RATES", 9, x.count(0));
        x.load(RAIL, 1, 0);
        x.load(RAIL, 1, 1);
        x.load(RAIL, 2, 0);
        due("14: LOADS", 3, x.count(1));
        zero("14: ask", () -> x.ask(RAIL, TOLL, 1, 0));
        due("14: a ZERO of ask", 1, x.count(3));
        x.ask(SEALED, TOTAL, 1, 0);
        due("14: no ZERO, but VALUE", 1, x.count(3));
        x.bill(RAIL);
        due("14: two ZEROS of bill", 3, x.count(3));
        x.cheapest(1, 0);
        due("14: two ZEROS of cheapest", 5, x.count(3));
        zero("14: ask of SEALED's COVER", () -> x.ask(SEALED, COVER, 1, 1));
        due("14: a ZERO of ask again", 6, x.count(3));
        x.ask(RATE, BASE, 0, 0);
        due("14: no ZERO in an answer 0", 6, x.count(3));
        due("14: what -1", -2, x.count(-1));
        due("14: what 4", -2, x.count(4));
        due("14: what MIN", -2, x.count(MIN));
        int down = x.count(2);
        x.count(2);
        x.trail(0);
        x.told(0, 0);
        x.failed();
        due("14: looking puts nothing down", down, x.count(2));
    }

    private static void promise15Clear() {
        FreightRates x = nine(77, 3);
        x.load(RAIL, 1, 0);
        x.bill(RAIL);
        x.ask(SEALED, NOTE, 5, 1);
        due("15: clear", 9, x.clear());
        for (int what = 0; what <= 3; what++) {
            due("15: count(" + what + ")", 0, x.count(what));
        }
        due("15: failed()", 0, x.failed());
        due("15: trail(0)", -5, x.trail(0));
        due("15: told(0, 0)", -1, x.told(0, 0));
        due("15: cheapest(1, 1)", -5, x.cheapest(1, 1));
        due("15: clear again", 0, x.clear());
        due("15: numbers begin at 0", 0, x.rate(SEALED, 5, 5));
        due("15: TALLY begins at 0", 0, x.told(0, 3));
        due("15: no LOAD of the old one", 0, x.bill(0));
        due("15: LOADS begin at 0", 0, x.load(0, 1, 1));
        for (int round = 0; round < 3; round++) {
            x.clear();
            for (int i = 0; i < 20; i++) {
                due("15: RATES again", i, x.rate(RATE, 0, 0));
            }
            for (int i = 0; i < 30; i++) {
                due("15: LOADS again", i, x.load(0, 1, 1));
            }
            due("15: RATES full again", -4, x.rate(RATE, 0, 0));
            due("15: LOADS full again", -4, x.load(0, 1, 1));
        }
        due("15: clear of 20", 20, x.clear());
    }

    private static void refusedChangesNothing() {
        FreightRates x = nine(77, 3);
        x.load(RAIL, 1, 0);
        x.bill(RAIL);
        int down = x.count(2);
        x.rate(9, 0, 0);
        x.rate(0, 100001, 0);
        throwsExactly("refused ask", ArrayIndexOutOfBoundsException.class, () -> x.ask(9, NOTE, 1, 0));
        throwsExactly("refused ask", IllegalArgumentException.class, () -> x.ask(WAGON, 6, 1, 0));
        x.tax(9, 1);
        x.gross(9, 1);
        x.gross(RAIL, 1);
        x.late(9, 1);
        x.late(COLD, 1001);
        x.late(ROAD, 1);
        x.told(9, 9);
        x.become(0, 5, 100);
        x.become(0, 100001, 5);
        x.load(9, 1, 1);
        x.bill(9);
        x.count(4);
        x.trail(-1);
        due("refused: RATES", 9, x.count(0));
        due("refused: LOADS", 1, x.count(1));
        due("refused: trail", down, x.count(2));
        due("refused: ZEROS", 1, x.count(3));
        due("refused: failed", 1, x.failed());
        due("refused: VALUE", 77, x.told(0, 1));
        due("refused: HOURS", 3, x.told(0, 2));
        due("refused: TALLY", 0, x.told(WAGON, 3));
    }
}
