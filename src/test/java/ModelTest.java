import java.util.ArrayList;
import java.util.List;

/**
 * Long runs of calls, made by a plain number row, against a second reading of the document:
 * tables that tell which KIND has which way, a walk up them, and ZERO as an exception.
 */
public final class ModelTest {
    private static final int RUNS = 400, STEPS = 330;
    private static final int NOTHING = 0, NO_RATE = 1, NO_WAY = 2, WAS_ZERO = 3;

    private static int wrong = 0;
    private static long row = 1;

    private static int next(int below) {
        row = row * 6364136223846793005L + 1442695040888963407L;
        return (int) ((row >>> 33) % below);
    }

    private static final class Zero extends Exception {
        private static final long serialVersionUID = 1L;
    }

    private static final class Model {
        static final int[] PARENT = {-1, 0, 1, 2, 1, 4, 0, 6, 7};
        // For each way (BASE .. TOTAL, TAX, GROSS, HOURED): the KINDS that have one of their own.
        static final String[] OWN = {"02568", "01368", "034578", "0158", "023457", "038", "048", "78", "45"};

        final List<int[]> rates = new ArrayList<>();
        final List<int[]> loads = new ArrayList<>();
        final List<Integer> trail = new ArrayList<>();
        int zeros = 0;
        int failed = 0;

        boolean known(int rate) {
            return rate >= 0 && rate < rates.size();
        }

        boolean under(int kind, int over) {
            for (int k = kind; k >= 0; k = PARENT[k]) {
                if (k == over) {
                    return true;
                }
            }
            return false;
        }

        boolean taxed(int kind) {
            return under(kind, 1) || under(kind, 7);
        }

        boolean timed(int kind) {
            return under(kind, 4);
        }

        int divide(int a, int b) throws Zero {
            if (b == 0) {
                throw new Zero();
            }
            return a / b;
        }

        int go(int[] r, int from, int way, int w, int d) throws Zero {
            int k = from;
            while (k >= 0 && OWN[way].indexOf((char) ('0' + k)) < 0) {
                k = PARENT[k];
            }
            if (k < 0) {
                // GROSS of the TAXED ones that have none of their own
                return w + go(r, r[0], 6, w, d);
            }
            int up = PARENT[k];
            trail.add(10 * k + way);
            switch (10 * k + way) {
                case 0: return w * d;
                case 20: return go(r, up, way, w, d) + 50 * w;
                case 50: return 2 * go(r, up, way, w, d);
                case 60: return w * (d / 2);
                case 80: return go(r, up, way, w, d) + r[1];
                case 1: return d / 10;
                case 11: return go(r, up, way, w, d) + 5;
                case 31: return 3 * go(r, up, way, w, d);
                case 61: return divide(w, d);
                case 81: return go(r, up, way, w, d) + w;
                case 2: return r[1] / 100;
                case 32: return 3 * go(r, up, way, w, d);
                case 42: return go(r, up, way, w, d) + r[2];
                case 52: return go(r, up, way, w, d) / 2;
                case 72: return go(r, up, way, w, d) + 7;
                case 82: return divide(go(r, up, way, w, d), r[2]);
                case 3: return w / 1000;
                case 13: return go(r, up, way, w, d) + 10;
                case 53: return go(r, up, way, w, d) - r[2];
                case 83: return 2 * go(r, up, way, w, d);
                case 4: return ++r[3];
                case 24: go(r, up, way, w, d); return go(r, up, way, w, d);
                case 34: return go(r, up, way, w, d) + 100;
                case 44: go(r, up, way, w, d); r[3] *= 2; return r[3];
                case 54: return go(r, up, way, w, d) + w;
                case 74: r[3] += 10; int share = divide(w, d); return share + go(r, up, way, w, d);
                case 5:
                    int sum = 0;
                    for (int part = 0; part < 4; part++) {
                        sum += go(r, r[0], part, w, d);
                    }
                    return sum;
                case 35: return go(r, up, way, w, d) + 9;
                case 85:
                    try {
                        return go(r, up, way, w, d);
                    } catch (Zero zero) {
                        return r[1];
                    }
                case 6: return w / 5;
                case 46: return go(r, up, way, w, d) - 1;
                case 86: return go(r, up, way, w, d) + 3;
                case 77: return w + 2 * go(r, r[0], 6, w, d);
                case 87: return go(r, up, way, w, d) + 1;
                case 48: return w + r[2];
                case 58: return go(r, up, way, w, d) / 2;
                default: throw new AssertionError("no way " + way + " of KIND " + k);
            }
        }

        long call(int which, int[] a) {
            try {
                switch (which) {
                    case 0: return rate(a);
                    case 1: return ask(a);
                    case 2: return known(a[0]) ? go(rates.get(a[0]), rates.get(a[0])[0], 6, a[1], 0) : 0;
                    case 3: return gross(a);
                    case 4: return late(a);
                    case 5: return told(a);
                    case 6: return become(a);
                    case 7: return load(a);
                    case 8: return bill(a);
                    case 9: return failed;
                    case 10: return cheapest(a);
                    case 11: return a[0] < 0 || a[0] >= 40 || a[0] >= trail.size() ? -5 : trail.get(trail.size() - 1 - a[0]);
                    case 12: return count(a);
                    default: return clear();
                }
            } catch (Zero zero) {
                throw new AssertionError("a ZERO where none can be", zero);
            }
        }

        boolean outside(int value, int hours) {
            return value < 0 || value > 100000 || hours < 0 || hours > 99;
        }

        long rate(int[] a) {
            if (a[0] < 0 || a[0] > 8 || outside(a[1], a[2])) {
                return -2;
            }
            if (rates.size() == 20) {
                return -4;
            }
            rates.add(new int[] {a[0], a[1], a[2], 0});
            return rates.size() - 1;
        }

        long ask(int[] a) {
            if (!known(a[0])) {
                return thrown(NO_RATE);
            }
            if (a[1] < 0 || a[1] > 5) {
                return thrown(NO_WAY);
            }
            int[] r = rates.get(a[0]);
            try {
                return go(r, r[0], a[1], a[2], a[3]);
            } catch (Zero zero) {
                zeros++;
                return thrown(WAS_ZERO);
            }
        }

        long gross(int[] a) throws Zero {
            if (!known(a[0])) {
                return -2000000001;
            }
            int[] r = rates.get(a[0]);
            return taxed(r[0]) ? go(r, r[0], 7, a[1], 0) : -2000000003;
        }

        long late(int[] a) throws Zero {
            if (!known(a[0])) {
                return -2000000001;
            }
            if (a[1] < 0 || a[1] > 1000) {
                return -2000000002;
            }
            int[] r = rates.get(a[0]);
            return timed(r[0]) ? 2 * go(r, r[0], 8, a[1], 0) - a[1] : -2000000003;
        }

        long told(int[] a) {
            if (!known(a[0])) {
                return -1;
            }
            if (a[1] < 0 || a[1] > 6) {
                return -2;
            }
            int[] r = rates.get(a[0]);
            int over = 0;
            for (int k = PARENT[r[0]]; k >= 0; k = PARENT[k]) {
                over++;
            }
            int[] all = {r[0], r[1], r[2], r[3], taxed(r[0]) ? 1 : 0, timed(r[0]) ? 1 : 0, over};
            return all[a[1]];
        }

        long become(int[] a) {
            if (!known(a[0])) {
                return -1;
            }
            if (outside(a[1], a[2])) {
                return -2;
            }
            rates.get(a[0])[1] = a[1];
            rates.get(a[0])[2] = a[2];
            return 1;
        }

        long load(int[] a) {
            if (!known(a[0])) {
                return -1;
            }
            if (loads.size() == 30) {
                return -4;
            }
            loads.add(new int[] {a[0], a[1], a[2]});
            return loads.size() - 1;
        }

        long bill(int[] a) {
            if (!known(a[0])) {
                return -2000000001;
            }
            int[] r = rates.get(a[0]);
            int sum = 0;
            failed = 0;
            for (int[] load : loads) {
                if (load[0] == a[0]) {
                    try {
                        sum += go(r, r[0], 5, load[1], load[2]);
                    } catch (Zero zero) {
                        failed++;
                        zeros++;
                    }
                }
            }
            return sum;
        }

        long cheapest(int[] a) {
            int best = -5;
            long least = Long.MAX_VALUE;
            for (int i = 0; i < rates.size(); i++) {
                try {
                    int total = go(rates.get(i), rates.get(i)[0], 5, a[0], a[1]);
                    if (total < least) {
                        least = total;
                        best = i;
                    }
                } catch (Zero zero) {
                    zeros++;
                }
            }
            return best;
        }

        long count(int[] a) {
            switch (a[0]) {
                case 0: return rates.size();
                case 1: return loads.size();
                case 2: return trail.size();
                case 3: return zeros;
                default: return -2;
            }
        }

        long clear() {
            int gone = rates.size();
            rates.clear();
            loads.clear();
            trail.clear();
            zeros = 0;
            failed = 0;
            return gone;
        }
    }

    private static long thrown(int which) {
        return (1L << 40) + which;
    }

    private static long call(FreightRates x, int which, int[] a) {
        switch (which) {
            case 0: return x.rate(a[0], a[1], a[2]);
            case 1: return ask(x, a);
            case 2: return x.tax(a[0], a[1]);
            case 3: return x.gross(a[0], a[1]);
            case 4: return x.late(a[0], a[1]);
            case 5: return x.told(a[0], a[1]);
            case 6: return x.become(a[0], a[1], a[2]);
            case 7: return x.load(a[0], a[1], a[2]);
            case 8: return x.bill(a[0]);
            case 9: return x.failed();
            case 10: return x.cheapest(a[0], a[1]);
            case 11: return x.trail(a[0]);
            case 12: return x.count(a[0]);
            default: return x.clear();
        }
    }

    private static long ask(FreightRates x, int[] a) {
        try {
            return x.ask(a[0], a[1], a[2], a[3]);
        } catch (RuntimeException e) {
            if (e.getClass() == ArrayIndexOutOfBoundsException.class) {
                return thrown(NO_RATE);
            }
            if (e.getClass() == IllegalArgumentException.class) {
                return thrown(NO_WAY);
            }
            return e.getClass() == ArithmeticException.class ? thrown(WAS_ZERO) : thrown(NOTHING);
        }
    }

    private static final String[] NAMES = {"rate", "ask", "tax", "gross", "late", "told", "become", "load",
        "bill", "failed", "cheapest", "trail", "count", "clear"};

    private static void same(int run, int step, FreightRates x, Model model, int which, int... a) {
        long want = model.call(which, a);
        long got = call(x, which, a);
        if (want != got) {
            wrong++;
            if (wrong <= 20) {
                System.out.println("run " + run + ", step " + step + ": " + NAMES[which] + java.util.Arrays.toString(a)
                        + " answered " + got + ", due is " + want);
            }
        }
    }

    private static int aRate(Model model) {
        int some = next(20);
        if (some == 0) {
            return new int[] {-1, model.rates.size(), Integer.MIN_VALUE, Integer.MAX_VALUE}[next(4)];
        }
        return model.rates.isEmpty() ? 0 : next(model.rates.size());
    }

    private static int aNumber() {
        switch (next(8)) {
            case 0: return 0;
            case 1: return new int[] {Integer.MIN_VALUE, Integer.MAX_VALUE, -1, 1}[next(4)];
            case 2: return next(5) - 2;
            case 3: return next(Integer.MAX_VALUE) * (next(2) * 2 - 1);
            case 4: return -next(100000);
            default: return next(10000);
        }
    }

    private static int within(int top) {
        switch (next(12)) {
            case 0: return -1;
            case 1: return top + 1;
            case 2: return 0;
            case 3: return top;
            default: return next(top + 1);
        }
    }

    private static void step(int run, int step, FreightRates x, Model model) {
        int some = next(100);
        if (some < 12) {
            same(run, step, x, model, 0, next(11) - 1, within(100000), within(99));
        } else if (some < 45) {
            same(run, step, x, model, 1, aRate(model), next(25) == 0 ? next(9) - 2 : next(6), aNumber(), aNumber());
        } else if (some < 50) {
            same(run, step, x, model, 2, aRate(model), aNumber());
        } else if (some < 55) {
            same(run, step, x, model, 3, aRate(model), aNumber());
        } else if (some < 60) {
            same(run, step, x, model, 4, aRate(model), within(1000));
        } else if (some < 65) {
            same(run, step, x, model, 5, aRate(model), next(9) - 1);
        } else if (some < 70) {
            same(run, step, x, model, 6, aRate(model), within(100000), within(99));
        } else if (some < 79) {
            same(run, step, x, model, 7, aRate(model), aNumber(), aNumber());
        } else if (some < 84) {
            same(run, step, x, model, 8, aRate(model));
        } else if (some < 88) {
            same(run, step, x, model, 9);
        } else if (some < 92) {
            same(run, step, x, model, 10, aNumber(), aNumber());
        } else if (some < 96) {
            same(run, step, x, model, 11, next(43) - 1);
        } else if (some < 99 || next(3) > 0) {
            same(run, step, x, model, 12, next(6) - 1);
        } else {
            same(run, step, x, model, 13);
        }
    }

    private static void run(int run) {
        FreightRates x = new FreightRates();
        Model model = new Model();
        for (int step = 0; step < STEPS; step++) {
            step(run, step, x, model);
        }
        for (int what = 0; what < 4; what++) {
            same(run, STEPS, x, model, 12, what);
        }
        for (int i = 0; i <= 40; i++) {
            same(run, STEPS, x, model, 11, i);
        }
        for (int rate = 0; rate < model.rates.size(); rate++) {
            for (int what = 0; what <= 3; what++) {
                same(run, STEPS, x, model, 5, rate, what);
            }
        }
        same(run, STEPS, x, model, 9);
        same(run, STEPS, x, model, 13);
    }

    public static void main(String[] args) {
        for (int run = 0; run < RUNS; run++) {
            run(run);
        }
        System.out.println(wrong == 0 ? "all " + RUNS + " runs are as due" : wrong + " answers are not as due");
        if (wrong != 0) {
            System.exit(1);
        }
    }
}
