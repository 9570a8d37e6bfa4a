import java.util.TreeMap;
import java.util.function.LongSupplier;

/**
 * All promises: long runs of calls, drawn by a fixed rule, on the class and on PlainDesk, which
 * must answer alike. After every call that may change something the whole state is compared too;
 * these looks change nothing and are not counted among a run's 512 calls.
 */
public final class ComparisonTest {
    private static final int RUNS = 100;
    private static final int CALLS = 512;
    private static final Checks check = new Checks();

    private final LandingSlots x = new LandingSlots();
    private final PlainDesk plain = new PlainDesk();
    private final TreeMap<String, Integer> tally;
    private final int run;
    private long seed;
    private String call = "";

    private ComparisonTest(int run, TreeMap<String, Integer> tally) {
        this.run = run;
        this.tally = tally;
        seed = 1_000_003L * run + 17;
    }

    public static void main(String[] args) {
        TreeMap<String, Integer> tally = new TreeMap<>();
        for (int run = 0; run < RUNS; run++) {
            new ComparisonTest(run, tally).go();
        }
        if (args.length > 0) {
            tally.forEach((what, times) -> System.out.println(what + ": " + times));
        }
        check.finish();
    }

    private void go() {
        prepare();
        for (int i = 0; i < CALLS - 40; i++) {
            oneCall();
            compareState();
        }
    }

    /** Some rates and flights first, so that runs are not spent on an empty desk. */
    private void prepare() {
        // Runs differ in how crowded they are: few quarters make few slots for the same flights.
        int quarters = 2 + run % 5;
        for (int i = 0; i < quarters; i++) {
            int quarter = i;
            int n = upTo(8);
            both("rate", () -> x.rate(quarter, n), () -> plain.rate(quarter, n));
        }
        for (int i = 0; i < 20; i++) {
            addFlight();
        }
        both("ration", x::ration, plain::ration);
    }

    private void oneCall() {
        switch (upTo(run % 4 == 0 ? 24 : 20)) {
            case 0 -> rate();
            case 1 -> addFlight();
            case 2 -> rationSometimes();
            case 3, 4 -> later();
            case 5, 6 -> cancelSometimes();
            case 7 -> airborneSometimes();
            case 8, 9 -> swap();
            case 10, 11, 12, 13 -> offer();
            case 14 -> drop();
            case 15, 16 -> both("trade", x::trade, plain::trade);
            case 17 -> both("compress", x::compress, plain::compress);
            case 18 -> wrongNames();
            default -> swap();
        }
    }

    private void rate() {
        int quarter = upTo(3) == 0 ? upTo(17) - 1 : upTo(5);
        int n = upTo(10) - 1;
        if (upTo(2) == 0) {
            both("rate", () -> x.rate(quarter, n), () -> plain.rate(quarter, n));
        }
    }

    private void addFlight() {
        int airline = upTo(20) == 0 ? upTo(10) - 1 : upTo(3);
        int scheduled = upTo(20) == 0 ? upTo(245) - 2 : upTo(60);
        int earliest = upTo(20) == 0 ? upTo(305) - 2 : Math.max(0, scheduled - 15) + upTo(25);
        both("flight", () -> x.flight(airline, scheduled, earliest), () -> plain.flight(airline, scheduled, earliest));
    }

    private void rationSometimes() {
        if (upTo(3) == 0) {
            both("ration", x::ration, plain::ration);
        }
    }

    private void later() {
        int flight = someFlight();
        int earliest = upTo(8) == 0 ? upTo(305) - 2 : upTo(90);
        both("later", () -> x.later(flight, earliest) ? 1 : 0, () -> plain.later(flight, earliest) ? 1 : 0);
    }

    private void cancelSometimes() {
        int flight = someFlight();
        if (upTo(4) == 0) {
            both("cancel", () -> x.cancel(flight) ? 1 : 0, () -> plain.cancel(flight) ? 1 : 0);
        }
    }

    private void airborneSometimes() {
        int flight = someFlight();
        if (upTo(4) == 0) {
            both("airborne", () -> { x.airborne(flight); return 0; }, () -> { plain.airborne(flight); return 0; });
        }
    }

    private void swap() {
        int flight = someFlight();
        int other = someFlight();
        both("swap", () -> { x.swap(flight, other); return 0; }, () -> { plain.swap(flight, other); return 0; });
    }

    private void offer() {
        int give = someSlot();
        int want = someSlot();
        int airline = ownerOr(give, upTo(9) - 1);
        both("offer", () -> x.offer(airline, give, want), () -> plain.offer(airline, give, want));
        int second = ownerOr(want, upTo(9) - 1);
        if (upTo(2) == 0) {
            both("offer", () -> x.offer(second, want, give), () -> plain.offer(second, want, give));
        }
    }

    private void drop() {
        int offer = upTo(43) - 1;
        if (upTo(3) == 0) {
            both("drop", () -> x.drop(offer) ? 1 : 0, () -> plain.drop(offer) ? 1 : 0);
        }
    }

    private void wrongNames() {
        int any = upTo(4) == 0 ? (int) next() : upTo(70) - 5;
        int other = upTo(4) == 0 ? (int) next() : upTo(10) - 3;
        both("slotOf", () -> x.slotOf(any), () -> plain.slotOf(any));
        both("ownerOf", () -> x.ownerOf(any), () -> plain.ownerOf(any));
        both("flightIn", () -> x.flightIn(any), () -> plain.flightIn(any));
        both("delay", () -> x.delay(other), () -> plain.delay(other));
        both("owned", () -> x.owned(other), () -> plain.owned(other));
        both("entry", () -> x.entry(any, other), () -> plain.entry(any, other));
        both("rate", () -> x.rate(any, other), () -> plain.rate(any, other));
        both("swap", () -> { x.swap(any, other); return 0; }, () -> { plain.swap(any, other); return 0; });
    }

    private void compareState() {
        for (int flight = 0; flight <= 60; flight++) {
            int f = flight;
            both("slotOf", () -> x.slotOf(f), () -> plain.slotOf(f));
        }
        for (int minute = 0; minute < 100; minute++) {
            int m = minute;
            both("ownerOf", () -> x.ownerOf(m), () -> plain.ownerOf(m));
            both("flightIn", () -> x.flightIn(m), () -> plain.flightIn(m));
        }
        for (int airline = -1; airline < 8; airline++) {
            int a = airline;
            both("delay", () -> x.delay(a), () -> plain.delay(a));
            both("owned", () -> x.owned(a), () -> plain.owned(a));
        }
        both("gaps", x::gaps, plain::gaps);
        both("log", x::log, plain::log);
        for (int i = Math.max(0, plain.log() - 60); i < plain.log(); i++) {
            for (int what = 0; what < 4; what++) {
                int e = i;
                int w = what;
                both("entry", () -> x.entry(e, w), () -> plain.entry(e, w));
            }
        }
    }

    private void both(String name, LongSupplier ours, LongSupplier due) {
        String got = answer(ours);
        String wanted = answer(due);
        tally.merge(name + (wanted.startsWith("throws") ? " " + wanted : wanted.equals("0") ? " 0" : " other"), 1, Integer::sum);
        if (changes(name)) {
            call = name;
        }
        if (!got.equals(wanted)) {
            System.out.println("run " + run + " after " + call + ": " + name + " answered " + got + ", due is " + wanted);
        }
        check.quiet(got.equals(wanted));
    }

    private static boolean changes(String name) {
        return "rate flight ration later cancel airborne swap offer drop trade compress".contains(name);
    }

    private static String answer(LongSupplier asked) {
        try {
            return Long.toString(asked.getAsLong());
        } catch (RuntimeException e) {
            return "throws " + e.getClass().getSimpleName();
        }
    }

    private int someFlight() {
        return upTo(30) == 0 ? upTo(64) - 2 : upTo(24);
    }

    private int someSlot() {
        int minute = upTo(75);
        while (minute < 75 && answer(slotAt(minute)).startsWith("throws") && upTo(12) != 0) {
            minute++;
        }
        return minute;
    }

    private LongSupplier slotAt(int minute) {
        return () -> plain.ownerOf(minute);
    }

    private int ownerOr(int minute, int other) {
        String owner = answer(slotAt(minute));
        return owner.startsWith("throws") || upTo(10) == 0 ? other : Integer.parseInt(owner);
    }

    private int upTo(int bound) {
        return (int) Math.floorMod(next(), (long) bound);
    }

    private long next() {
        seed = seed * 6364136223846793005L + 1442695040888963407L;
        return seed >> 33;
    }
}
