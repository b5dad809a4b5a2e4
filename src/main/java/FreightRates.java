/** Freight and what it costs: rates of nine kinds, a trail of the ways gone, loads and their bills. */
public final class FreightRates {
    public static final int UNKNOWN = -1, OUTSIDE = -2, STATE = -3, FULL = -4, NONE = -5;

    // Refusals of the calls whose true answers may be -1, -2 or -3.
    private static final int FAR_UNKNOWN = -2000000001, FAR_OUTSIDE = -2000000002, FAR_STATE = -2000000003;

    private static final int RATE = 0, ROAD = 1, TANK = 2, ACID = 3, COLD = 4, SWIFT = 5;
    private static final int RAIL = 6, WAGON = 7, SEALED = 8;

    private static final int BASE = 0, TOLL = 1, COVER = 2, WAIT = 3, NOTE = 4, TOTAL = 5;
    private static final int TAX = 6, GROSS = 7, HOURED = 8;

    private static final int MOST_RATES = 20, MOST_LOADS = 30, MOST_TOLD = 40;
    private static final int TOP_VALUE = 100000, TOP_HOURS = 99, TOP_LATE = 1000;

    // How many KINDS stand over each KIND.
    private static final int[] KINDS_OVER = {0, 1, 2, 3, 2, 3, 1, 2, 3};

    private final Rate[] rates;
    private int rateCount;

    private final int[] loadRates;
    private final int[] loadWeights;
    private final int[] loadDistances;
    private int loadCount;

    private final int[] trailRing;
    private int trailCount;

    // Raised by a division by 0. A way that finds it raised does nothing more
    // and its answer means nothing; SEALED's TOTAL alone takes it down again.
    private boolean zero;
    private int zeroCount;
    private int failedCount;

    public FreightRates() {
        rates = new Rate[MOST_RATES];
        loadRates = new int[MOST_LOADS];
        loadWeights = new int[MOST_LOADS];
        loadDistances = new int[MOST_LOADS];
        trailRing = new int[MOST_TOLD];
    }

    public int rate(int kind, int value, int hours) {
        if (kind < RATE || kind > SEALED || !fits(value, hours)) {
            return OUTSIDE;
        }
        if (rateCount >= rates.length) {
            return FULL;
        }
        int number = rateCount;
        rates[number] = made(kind, value, hours);
        rateCount++;
        return number;
    }

    public int ask(int rate, int way, int w, int d)
            throws ArrayIndexOutOfBoundsException, IllegalArgumentException, ArithmeticException {
        Rate asked = found(rate);
        if (asked == null) {
            throw new ArrayIndexOutOfBoundsException("no such RATE");
        }
        if (way < BASE || way > TOTAL) {
            throw new IllegalArgumentException("no such way");
        }
        int answer = answered(asked, way, w, d);
        if (zero) {
            throw new ArithmeticException("ZERO");
        }
        return answer;
    }

    public int tax(int rate, int amount) {
        Rate asked = found(rate);
        return asked == null ? 0 : asked.taxOf(amount);
    }

    public int gross(int rate, int amount) {
        Rate asked = found(rate);
        if (asked == null) {
            return FAR_UNKNOWN;
        }
        if (asked instanceof Taxed taxed) {
            return taxed.grossOf(amount);
        }
        return FAR_STATE;
    }

    public int late(int rate, int h) {
        Rate asked = found(rate);
        if (asked == null) {
            return FAR_UNKNOWN;
        }
        if (h < 0 || h > TOP_LATE) {
            return FAR_OUTSIDE;
        }
        if (asked instanceof Timed timed) {
            return timed.lateOf(h);
        }
        return FAR_STATE;
    }

    public int told(int rate, int what) {
        Rate asked = found(rate);
        if (asked == null) {
            return UNKNOWN;
        }
        switch (what) {
            case 0:
                return asked.kind;
            case 1:
                return asked.value;
            case 2:
                return asked.hours;
            case 3:
                return asked.tally;
            case 4:
                return asked instanceof Taxed ? 1 : 0;
            case 5:
                return asked instanceof Timed ? 1 : 0;
            case 6:
                return kindsOver(asked.kind);
            default:
                return OUTSIDE;
        }
    }

    public int become(int rate, int value, int hours) {
        Rate changed = found(rate);
        if (changed == null) {
            return UNKNOWN;
        }
        if (!fits(value, hours)) {
            return OUTSIDE;
        }
        changed.value = value;
        changed.hours = hours;
        return 1;
    }

    public int load(int rate, int w, int d) {
        if (found(rate) == null) {
            return UNKNOWN;
        }
        if (loadCount >= MOST_LOADS) {
            return FULL;
        }
        int number = loadCount;
        loadRates[number] = rate;
        loadWeights[number] = w;
        loadDistances[number] = d;
        loadCount++;
        return number;
    }

    public int bill(int rate) {
        Rate billed = found(rate);
        if (billed == null) {
            return FAR_UNKNOWN;
        }
        failedCount = 0;
        int sum = 0;
        for (int i = 0; i < loadCount && i < MOST_LOADS; i++) {
            if (loadRates[i] != rate) {
                continue;
            }
            int total = answered(billed, TOTAL, loadWeights[i], loadDistances[i]);
            if (zero) {
                failedCount++;
            } else {
                sum += total;
            }
        }
        return sum;
    }

    public int failed() {
        return failedCount;
    }

    public int cheapest(int w, int d) {
        int best = NONE;
        int least = 0;
        for (int i = 0; i < MOST_RATES; i++) {
            Rate asked = found(i);
            if (asked == null) {
                break;
            }
            int total = answered(asked, TOTAL, w, d);
            if (!zero && (best == NONE || total < least)) {
                best = i;
                least = total;
            }
        }
        return best;
    }

    public int trail(int i) {
        if (i < 0 || i >= MOST_TOLD || i >= trailCount) {
            return NONE;
        }
        int at = (trailCount - 1 - i) % MOST_TOLD;
        return at >= 0 && at < trailRing.length ? trailRing[at] : NONE;
    }

    public int count(int what) {
        switch (what) {
            case 0:
                return rateCount;
            case 1:
                return loadCount;
            case 2:
                return trailCount;
            case 3:
                return zeroCount;
            default:
                return OUTSIDE;
        }
    }

    public int clear() {
        int gone = rateCount;
        for (int i = 0; i < rates.length; i++) {
            rates[i] = null;
        }
        rateCount = 0;
        loadCount = 0;
        trailCount = 0;
        zero = false;
        zeroCount = 0;
        failedCount = 0;
        return gone;
    }

    private static boolean fits(int value, int hours) {
        return value >= 0 && value <= TOP_VALUE && hours >= 0 && hours <= TOP_HOURS;
    }

    private static int kindsOver(int kind) {
        return kind >= 0 && kind < KINDS_OVER.length ? KINDS_OVER[kind] : 0;
    }

    private Rate found(int rate) {
        return rate >= 0 && rate < rateCount && rate < rates.length ? rates[rate] : null;
    }

    private Rate made(int kind, int value, int hours) {
        switch (kind) {
            case ROAD:
                return new Road(this, kind, value, hours);
            case TANK:
                return new Tank(this, kind, value, hours);
            case ACID:
                return new Acid(this, kind, value, hours);
            case COLD:
                return new Cold(this, kind, value, hours);
            case SWIFT:
                return new Swift(this, kind, value, hours);
            case RAIL:
                return new Rail(this, kind, value, hours);
            case WAGON:
                return new Wagon(this, kind, value, hours);
            case SEALED:
                return new Sealed(this, kind, value, hours);
            default:
                return new Rate(this, kind, value, hours);
        }
    }

    // After it, zero tells whether the way was ZERO.
    private int answered(Rate asked, int way, int w, int d) {
        zero = false;
        int answer = 0;
        switch (way) {
            case BASE:
                answer = asked.base(w, d);
                break;
            case TOLL:
                answer = asked.toll(w, d);
                break;
            case COVER:
                answer = asked.cover(w, d);
                break;
            case WAIT:
                answer = asked.waiting(w, d);
                break;
            case NOTE:
                answer = asked.note(w, d);
                break;
            default:
                answer = asked.total(w, d);
                break;
        }
        if (zero) {
            zeroCount++;
        }
        return answer;
    }

    private void putDown(int kind, int way) {
        int at = trailCount % MOST_TOLD;
        if (at >= 0 && at < trailRing.length) {
            trailRing[at] = 10 * kind + way;
        }
        trailCount++;
    }

    private int divided(int number, int by) {
        if (by == 0) {
            zero = true;
            return 0;
        }
        return number / by;
    }

    /** The face of the RATES that have a GROSS. */
    private interface Taxed {
        int taxOf(int amount);

        // No KIND's own, so nothing is put down.
        default int grossOf(int amount) {
            return amount + taxOf(amount);
        }
    }

    /** The face of the RATES that have HOURED and LATE. */
    private interface Timed {
        int houredOf(int h);

        default int lateOf(int h) {
            return 2 * houredOf(h) - h;
        }
    }

    /** KIND 0; each KIND under it says only what it has of its own. */
    private static class Rate {
        final FreightRates freight;
        final int kind;
        int value;
        int hours;
        int tally;

        Rate(FreightRates freight, int kind, int value, int hours) {
            this.freight = freight;
            this.kind = kind;
            this.value = value;
            this.hours = hours;
        }

        int base(int w, int d) {
            freight.putDown(RATE, BASE);
            return w * d;
        }

        int toll(int w, int d) {
            freight.putDown(RATE, TOLL);
            return d / 10;
        }

        int cover(int w, int d) {
            freight.putDown(RATE, COVER);
            return value / 100;
        }

        int waiting(int w, int d) {
            freight.putDown(RATE, WAIT);
            return w / 1000;
        }

        int note(int w, int d) {
            freight.putDown(RATE, NOTE);
            tally++;
            return tally;
        }

        // Only TOLL and COVER divide by what may be 0.
        int total(int w, int d) {
            freight.putDown(RATE, TOTAL);
            int sum = base(w, d);
            sum += toll(w, d);
            if (freight.zero) {
                return 0;
            }
            sum += cover(w, d);
            if (freight.zero) {
                return 0;
            }
            return sum + waiting(w, d);
        }

        public int taxOf(int amount) {
            freight.putDown(RATE, TAX);
            return amount / 5;
        }
    }

    private static class Road extends Rate implements Taxed {
        Road(FreightRates freight, int kind, int value, int hours) {
            super(freight, kind, value, hours);
        }

        int toll(int w, int d) {
            freight.putDown(ROAD, TOLL);
            return super.toll(w, d) + 5;
        }

        int waiting(int w, int d) {
            freight.putDown(ROAD, WAIT);
            return super.waiting(w, d) + 10;
        }
    }

    private static class Tank extends Road {
        Tank(FreightRates freight, int kind, int value, int hours) {
            super(freight, kind, value, hours);
        }

        int base(int w, int d) {
            freight.putDown(TANK, BASE);
            return super.base(w, d) + 50 * w;
        }

        int note(int w, int d) {
            freight.putDown(TANK, NOTE);
            super.note(w, d);
            return super.note(w, d);
        }
    }

    private static final class Acid extends Tank {
        Acid(FreightRates freight, int kind, int value, int hours) {
            super(freight, kind, value, hours);
        }

        int toll(int w, int d) {
            freight.putDown(ACID, TOLL);
            return 3 * super.toll(w, d);
        }

        int cover(int w, int d) {
            freight.putDown(ACID, COVER);
            return 3 * super.cover(w, d);
        }

        int note(int w, int d) {
            freight.putDown(ACID, NOTE);
            return super.note(w, d) + 100;
        }

        int total(int w, int d) {
            freight.putDown(ACID, TOTAL);
            return super.total(w, d) + 9;
        }
    }

    private static class Cold extends Road implements Timed {
        Cold(FreightRates freight, int kind, int value, int hours) {
            super(freight, kind, value, hours);
        }

        int cover(int w, int d) {
            freight.putDown(COLD, COVER);
            return super.cover(w, d) + hours;
        }

        int note(int w, int d) {
            freight.putDown(COLD, NOTE);
            super.note(w, d);
            tally = 2 * tally;
            return tally;
        }

        public int taxOf(int amount) {
            freight.putDown(COLD, TAX);
            return super.taxOf(amount) - 1;
        }

        public int houredOf(int h) {
            freight.putDown(COLD, HOURED);
            return h + hours;
        }
    }

    private static final class Swift extends Cold {
        Swift(FreightRates freight, int kind, int value, int hours) {
            super(freight, kind, value, hours);
        }

        int base(int w, int d) {
            freight.putDown(SWIFT, BASE);
            return 2 * super.base(w, d);
        }

        int cover(int w, int d) {
            freight.putDown(SWIFT, COVER);
            return super.cover(w, d) / 2;
        }

        int waiting(int w, int d) {
            freight.putDown(SWIFT, WAIT);
            return super.waiting(w, d) - hours;
        }

        int note(int w, int d) {
            freight.putDown(SWIFT, NOTE);
            return super.note(w, d) + w;
        }

        public int houredOf(int h) {
            freight.putDown(SWIFT, HOURED);
            return super.houredOf(h) / 2;
        }
    }

    private static class Rail extends Rate {
        Rail(FreightRates freight, int kind, int value, int hours) {
            super(freight, kind, value, hours);
        }

        int base(int w, int d) {
            freight.putDown(RAIL, BASE);
            return w * (d / 2);
        }

        int toll(int w, int d) {
            freight.putDown(RAIL, TOLL);
            return freight.divided(w, d);
        }
    }

    private static class Wagon extends Rail implements Taxed {
        Wagon(FreightRates freight, int kind, int value, int hours) {
            super(freight, kind, value, hours);
        }

        int cover(int w, int d) {
            freight.putDown(WAGON, COVER);
            return super.cover(w, d) + 7;
        }

        int note(int w, int d) {
            freight.putDown(WAGON, NOTE);
            tally += 10;
            int share = freight.divided(w, d);
            if (freight.zero) {
                return 0;
            }
            return share + super.note(w, d);
        }

        public int grossOf(int amount) {
            freight.putDown(WAGON, GROSS);
            return amount + 2 * taxOf(amount);
        }
    }

    private static final class Sealed extends Wagon {
        Sealed(FreightRates freight, int kind, int value, int hours) {
            super(freight, kind, value, hours);
        }

        int base(int w, int d) {
            freight.putDown(SEALED, BASE);
            return super.base(w, d) + value;
        }

        int toll(int w, int d) {
            freight.putDown(SEALED, TOLL);
            return super.toll(w, d) + w;
        }

        int cover(int w, int d) {
            freight.putDown(SEALED, COVER);
            return freight.divided(super.cover(w, d), hours);
        }

        int waiting(int w, int d) {
            freight.putDown(SEALED, WAIT);
            return 2 * super.waiting(w, d);
        }

        int total(int w, int d) {
            freight.putDown(SEALED, TOTAL);
            int up = super.total(w, d);
            if (freight.zero) {
                freight.zero = false;
                return value;
            }
            return up;
        }

        public int taxOf(int amount) {
            freight.putDown(SEALED, TAX);
            return super.taxOf(amount) + 3;
        }

        public int grossOf(int amount) {
            freight.putDown(SEALED, GROSS);
            return super.grossOf(amount) + 1;
        }
    }
}
