import java.util.ArrayList;
import java.util.List;
import java.util.function.Consumer;
import java.util.function.ToLongFunction;

/**
 * "Refused, and nothing changes .. the first of these that fits": every refusal of every call, with nothing
 * there, with some and with everything full; all that can be asked is compared ahead of it and behind it,
 * and what later calls answer with an object on which the refused call was never made.
 */
public final class RefusalsTest {
    private static final int MAX = Integer.MAX_VALUE, MIN = Integer.MIN_VALUE;
    private static final int UNKNOWN = -1, OUTSIDE = -2, FULL = -4, NONE = -5;
    private static final int FAR_UNKNOWN = -2000000001, FAR_OUTSIDE = -2000000002, FAR_STATE = -2000000003;
    private static final int RATE = 0, ROAD = 1, TANK = 2, ACID = 3, COLD = 4, SWIFT = 5, RAIL = 6, WAGON = 7, SEALED = 8;
    private static final int TOLL = 1, NOTE = 4, TOTAL = 5;

    // Answers of ask() that are exceptions, outside of all ints.
    private static final long NO_RATE = 1L << 40, NO_WAY = NO_RATE + 1, ZERO = NO_RATE + 2, STRANGE = NO_RATE + 3;

    private static int wrong = 0;
    private static int refusals = 0;

    /** The class, with its calls counted: behind the 512th one nothing is promised. */
    private static final class Asked {
        private final FreightRates x = new FreightRates();
        private int calls = 0;

        private FreightRates x() {
            calls++;
            if (calls == 513) {
                wrong++;
                System.out.println("the test itself makes more than 512 calls");
            }
            return x;
        }

        long ask(int rate, int way, int w, int d) {
            try {
                return x().ask(rate, way, w, d);
            } catch (RuntimeException e) {
                Class<?> c = e.getClass();
                return c == ArrayIndexOutOfBoundsException.class ? NO_RATE
                        : c == IllegalArgumentException.class ? NO_WAY
                        : c == ArithmeticException.class ? ZERO : STRANGE;
            }
        }
    }

    private static void due(String what, long want, long got) {
        if (want != got) {
            wrong++;
            System.out.println(what + ": answered " + got + ", due is " + want);
        }
    }

    private static void same(String what, List<Long> want, List<Long> got) {
        if (!want.equals(got)) {
            wrong++;
            System.out.println(what + ": asked " + got + ", due is " + want);
        }
    }

    /** All that can be asked without changing anything. */
    private static List<Long> seen(Asked a) {
        List<Long> seen = new ArrayList<>();
        for (int what = 0; what <= 3; what++) {
            seen.add((long) a.x().count(what));
        }
        seen.add((long) a.x().failed());
        int rates = (int) (long) seen.get(0);
        for (int rate = 0; rate < rates; rate++) {
            for (int what = 0; what <= 6; what++) {
                seen.add((long) a.x().told(rate, what));
            }
        }
        seen.add((long) a.x().told(rates, 0));
        for (int i = 0; i <= 40; i++) {
            seen.add((long) a.x().trail(i));
        }
        return seen;
    }

    /** What only calls that change something tell: the LOADS, the next numbers. */
    private static List<Long> later(Asked a) {
        List<Long> later = new ArrayList<>();
        int rates = a.x().count(0);
        for (int rate = 0; rate < rates; rate++) {
            later.add((long) a.x().bill(rate));
            later.add((long) a.x().failed());
        }
        later.add((long) a.x().cheapest(3, 0));
        later.add((long) a.x().cheapest(3, 3));
        later.add(a.ask(0, NOTE, 3, 3));
        later.add((long) a.x().load(rates - 1, 5, 5));
        later.add((long) a.x().rate(TANK, 5, 5));
        later.add((long) a.x().load(rates, 5, 5));
        later.add((long) a.x().count(2));
        later.add((long) a.x().count(3));
        later.add((long) a.x().clear());
        return later;
    }

    // Ways to an object: nothing there, some of everything, everything full.

    private static void nothing(Asked a) {
    }

    private static void cleared(Asked a) {
        some(a);
        a.x().clear();
    }

    private static void some(Asked a) {
        for (int kind = 0; kind <= 8; kind++) {
            a.x().rate(kind, 1000 + kind, kind);
        }
        for (int i = 0; i < 12; i++) {
            a.x().load(i % 9, 10 + i, i % 3);
        }
        a.ask(SWIFT, NOTE, 5, 5);
        a.ask(WAGON, NOTE, 5, 0);
        a.ask(SEALED, TOTAL, 5, 0);
        a.x().load(RAIL, 7, 0);
        a.x().bill(RAIL);
    }

    private static void full(Asked a) {
        for (int i = 0; i < 20; i++) {
            a.x().rate(i % 9, 100000 - i, i % 4);
        }
        for (int i = 0; i < 30; i++) {
            a.x().load(i % 20, 10 + i, i % 3);
        }
        a.ask(WAGON, NOTE, 5, 5);
        a.ask(COLD, NOTE, 5, 5);
        a.x().cheapest(5, 0);
        a.x().bill(RAIL);
    }

    private static void refused(String what, Consumer<Asked> way, long want, ToLongFunction<Asked> call) {
        refusals++;
        Asked a = new Asked();
        way.accept(a);
        List<Long> ahead = seen(a);
        due(what, want, call.applyAsLong(a));
        same(what + ", behind it", ahead, seen(a));
        Asked twin = new Asked();
        way.accept(twin);
        same(what + ", later", later(twin), later(a));
        // Twice, and with nothing asked ahead of it or between
        Asked b = new Asked();
        way.accept(b);
        due(what + ", again", want, call.applyAsLong(b));
        due(what + ", once more", want, call.applyAsLong(b));
        same(what + ", behind three", ahead, seen(b));
    }

    public static void main(String[] args) {
        everywhere("nothing there", RefusalsTest::nothing, 0);
        everywhere("cleared", RefusalsTest::cleared, 0);
        everywhere("some there", RefusalsTest::some, 9);
        everywhere("all full", RefusalsTest::full, 20);
        withRates("some there", RefusalsTest::some, 9);
        withRates("all full", RefusalsTest::full, 20);
        whenFull();
        justFull();
        looksChangeNothing("nothing there", RefusalsTest::nothing);
        looksChangeNothing("some there", RefusalsTest::some);
        looksChangeNothing("all full", RefusalsTest::full);
        zeroIsNoRefusal();
        System.out.println(wrong == 0 ? "all " + refusals + " refusals change nothing" : wrong + " answers are not as due");
        if (wrong != 0) {
            System.exit(1);
        }
    }

    /** What is refused in any state that has so many RATES. */
    private static void everywhere(String state, Consumer<Asked> way, int rates) {
        int[][] outside = {{-1, 0, 0}, {9, 0, 0}, {MIN, 0, 0}, {MAX, 0, 0}, {RATE, -1, 0}, {RATE, 100001, 0}, {SEALED, MIN, 0},
            {SEALED, MAX, 0}, {RATE, 0, -1}, {RATE, 0, 100}, {SEALED, 0, MIN}, {SEALED, 0, MAX}, {-1, -1, -1}, {9, 100001, 100},
            {ROAD, -1, 100}};
        for (int[] o : outside) {
            refused(state + ": rate(" + o[0] + ", " + o[1] + ", " + o[2] + ") is OUTSIDE, also ahead of FULL", way, OUTSIDE,
                    a -> a.x().rate(o[0], o[1], o[2]));
        }
        for (int rate : new int[] {MIN, -1, rates, rates + 1, 20, 21, MAX}) {
            noSuchRate(state + ", RATE " + rate, way, rate);
        }
        for (int what : new int[] {MIN, -1, 4, MAX}) {
            refused(state + ": count(" + what + ")", way, OUTSIDE, a -> a.x().count(what));
        }
        for (int i : new int[] {MIN, -1, 40, 41, MAX}) {
            refused(state + ": trail(" + i + ")", way, NONE, a -> a.x().trail(i));
        }
        if (rates == 0) {
            refused(state + ": trail(0)", way, NONE, a -> a.x().trail(0));
            refused(state + ": cheapest", way, NONE, a -> a.x().cheapest(3, 0));
        }
    }

    /** UNKNOWN is ahead of all others. */
    private static void noSuchRate(String state, Consumer<Asked> way, int rate) {
        for (int w : new int[] {-1, 0, 4, 5, 6, MIN, MAX}) {
            refused(state + ": ask, way " + w, way, NO_RATE, a -> a.ask(rate, w, 1, 1));
            refused(state + ": ask, way " + w + ", d = 0", way, NO_RATE, a -> a.ask(rate, w, 1, 0));
        }
        for (int number : new int[] {0, 100, MIN, MAX}) {
            refused(state + ": tax", way, 0, a -> a.x().tax(rate, number));
            refused(state + ": gross", way, FAR_UNKNOWN, a -> a.x().gross(rate, number));
        }
        for (int h : new int[] {0, 1000, -1, 1001, MIN, MAX}) {
            refused(state + ": late(.., " + h + "), ahead of OUTSIDE", way, FAR_UNKNOWN, a -> a.x().late(rate, h));
        }
        for (int what : new int[] {0, 6, -1, 7, MIN, MAX}) {
            refused(state + ": told(.., " + what + "), ahead of OUTSIDE", way, UNKNOWN, a -> a.x().told(rate, what));
        }
        int[][] others = {{0, 0}, {100000, 99}, {-1, 0}, {100001, 0}, {0, -1}, {0, 100}, {MIN, MAX}};
        for (int[] o : others) {
            refused(state + ": become, ahead of OUTSIDE", way, UNKNOWN, a -> a.x().become(rate, o[0], o[1]));
        }
        refused(state + ": load, also ahead of FULL", way, UNKNOWN, a -> a.x().load(rate, 5, 5));
        refused(state + ": bill", way, FAR_UNKNOWN, a -> a.x().bill(rate));
    }

    /** What is refused of RATES that are there, the first one and the last one among them. */
    private static void withRates(String state, Consumer<Asked> way, int rates) {
        for (int rate = 0; rate < rates; rate++) {
            int of = rate;
            int kind = rate % 9;
            boolean taxed = kind != RATE && kind != RAIL;
            boolean timed = kind == COLD || kind == SWIFT;
            String name = state + ", RATE " + rate;
            for (int w : new int[] {MIN, -1, 6, 7, 8, MAX}) {
                refused(name + ": ask, way " + w, way, NO_WAY, a -> a.ask(of, w, 1, 1));
                refused(name + ": ask, way " + w + ", d = 0", way, NO_WAY, a -> a.ask(of, w, 1, 0));
            }
            for (int what : new int[] {MIN, -1, 7, MAX}) {
                refused(name + ": told(.., " + what + ")", way, OUTSIDE, a -> a.x().told(of, what));
            }
            int[][] outside = {{-1, 5}, {100001, 5}, {MIN, 5}, {MAX, 5}, {5, -1}, {5, 100}, {5, MIN}, {5, MAX}, {-1, -1},
                {100001, 100}};
            for (int[] o : outside) {
                refused(name + ": become(.., " + o[0] + ", " + o[1] + ")", way, OUTSIDE, a -> a.x().become(of, o[0], o[1]));
            }
            for (int h : new int[] {MIN, -1, 1001, MAX}) {
                refused(name + ": late(.., " + h + "), also ahead of STATE", way, FAR_OUTSIDE, a -> a.x().late(of, h));
            }
            for (int h : new int[] {0, 1, 999, 1000}) {
                if (!timed) {
                    refused(name + ": late, not TIMED", way, FAR_STATE, a -> a.x().late(of, h));
                }
            }
            for (int amount : new int[] {0, 100, MIN, MAX}) {
                if (!taxed) {
                    refused(name + ": gross, not TAXED", way, FAR_STATE, a -> a.x().gross(of, amount));
                }
            }
        }
    }

    private static void whenFull() {
        for (int kind = 0; kind <= 8; kind++) {
            int of = kind;
            refused("all full: rate, KIND " + kind, RefusalsTest::full, FULL, a -> a.x().rate(of, 0, 0));
            refused("all full: rate, KIND " + kind, RefusalsTest::full, FULL, a -> a.x().rate(of, 100000, 99));
        }
        for (int rate = 0; rate < 20; rate++) {
            int of = rate;
            refused("all full: load of RATE " + rate, RefusalsTest::full, FULL, a -> a.x().load(of, 5, 5));
            refused("all full: load of RATE " + rate, RefusalsTest::full, FULL, a -> a.x().load(of, MIN, 0));
        }
    }

    /** FULL of the one is not FULL of the other. */
    private static void justFull() {
        Asked a = new Asked();
        for (int i = 0; i < 20; i++) {
            a.x().rate(RAIL, 0, 0);
        }
        due("20 RATES: rate", FULL, a.x().rate(RAIL, 0, 0));
        due("20 RATES: load", 0, a.x().load(19, 1, 1));
        Asked b = new Asked();
        b.x().rate(RAIL, 0, 0);
        for (int i = 0; i < 30; i++) {
            b.x().load(0, 1, 1);
        }
        due("30 LOADS: load", FULL, b.x().load(0, 1, 1));
        due("30 LOADS: rate", 1, b.x().rate(RAIL, 0, 0));
        due("30 LOADS: load of the new one", FULL, b.x().load(1, 1, 1));
        due("30 LOADS: bill of the new one", 0, b.x().bill(1));
        due("30 LOADS: bill of the first one", 30, b.x().bill(0));
        b.x().clear();
        b.x().rate(RAIL, 0, 0);
        due("30 LOADS, cleared: load", 0, b.x().load(0, 1, 1));
    }

    private static void looksChangeNothing(String state, Consumer<Asked> way) {
        Asked a = new Asked();
        way.accept(a);
        List<Long> first = seen(a);
        same(state + ": looks", first, seen(a));
        Asked b = new Asked();
        way.accept(b);
        same(state + ": looks, later", later(b), later(a));
    }

    /** ZERO is an answer: what was done ahead of it stays, and it is counted. */
    private static void zeroIsNoRefusal() {
        Asked a = new Asked();
        some(a);
        int down = a.x().count(2);
        int zeros = a.x().count(3);
        int tally = a.x().told(WAGON, 3);
        due("ZERO of NOTE", ZERO, a.ask(WAGON, NOTE, 5, 0));
        due("ZERO of NOTE: trail", down + 1, a.x().count(2));
        due("ZERO of NOTE: counted", zeros + 1, a.x().count(3));
        due("ZERO of NOTE: TALLY", tally + 10, a.x().told(WAGON, 3));
        due("ZERO of TOLL", ZERO, a.ask(SEALED, TOLL, 5, 0));
        due("ZERO of TOLL: trail", down + 3, a.x().count(2));
        due("ZERO of TOLL: counted", zeros + 2, a.x().count(3));
        due("ZERO of TOTAL", ZERO, a.ask(RAIL, TOTAL, 5, 0));
        due("ZERO of TOTAL: trail", down + 6, a.x().count(2));
        due("ZERO of TOTAL: counted", zeros + 3, a.x().count(3));
        due("ZERO: failed is the bill's", 2, a.x().failed());
        due("a way behind ZERO", 3 * 205 + 0, a.ask(ACID, TOLL, 0, 2000));
    }
}
