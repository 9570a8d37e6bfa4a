import java.util.TreeMap;
import java.util.function.LongSupplier;

/**
 * All promises: runs of 512 calls, drawn by a fixed rule, on the class and on PlainDesk, which must
 * answer alike. Runs differ in how many looks at the desk follow each call that may change it: many
 * looks find a fault early, few leave more calls to fill the tables with.
 */
public final class ComparisonTest {
    private static final int RUNS = 3000;
    private static final int CALLS = 512;
    private static final int LAST_LOOKS = 40;
    private static final int[] EDGES = {
        Integer.MIN_VALUE, -2, -1, 0, 1, 3, 4, 5, 7, 8, 9, 15, 16, 39, 40, 59, 60, 199, 200,
        223, 224, 225, 238, 239, 240, 300, 301, Integer.MAX_VALUE
    };
    private static final Checks check = new Checks();

    private final LandingSlots x = new LandingSlots();
    private final PlainDesk plain = new PlainDesk();
    private final TreeMap<String, Integer> tally;
    private final int run;
    private long seed;
    private int calls = 0;
    private String call = "";

    private ComparisonTest(int run, TreeMap<String, Integer> tally) {
        this.run = run;
        this.tally = tally;
        seed = 1_000_003L * run + 17;
    }

    public static void main(String[] args) {
        TreeMap<String, Integer> tally = new TreeMap<>();
        for (int run = 0; run < RUNS; run++) {
            new ComparisonTest(run, tally).go();
        }
        if (args.length > 0) {
            tally.forEach((what, times) -> System.out.println(what + ": " + times));
        }
        check.finish();
    }

    private void go() {
        prepare();
        int looks = run % 7;
        while (calls < CALLS - LAST_LOOKS) {
            oneCall();
            for (int i = 0; i < looks; i++) {
                look();
            }
        }
        while (calls < CALLS) {
            look();
        }
    }

    /** Some rates and flights first, so that runs are not spent on an empty desk. */
    private void prepare() {
        // Runs differ in how crowded they are: few quarters make few slots for the same flights.
        int quarters = 2 + run % 5;
        for (int i = 0; i < quarters; i++) {
            int quarter = i;
            int n = upTo(8);
            both("rate", () -> x.rate(quarter, n), () -> plain.rate(quarter, n));
        }
        int flights = run % 6 == 5 ? 60 : 20;
        for (int i = 0; i < flights; i++) {
            addFlight();
        }
        both("ration", x::ration, plain::ration);
    }

    private void oneCall() {
        switch (upTo(run % 4 == 0 ? 25 : 21)) {
            case 0 -> rate();
            case 1 -> addFlight();
            case 2 -> rationSometimes();
            case 3, 4 -> later();
            case 5, 6 -> cancelSometimes();
            case 7 -> airborneSometimes();
            case 8, 9 -> swap();
            case 10, 11, 12, 13 -> offer();
            case 14 -> drop();
            case 15, 16 -> both("trade", x::trade, plain::trade);
            case 17 -> both("compress", x::compress, plain::compress);
            case 18 -> wrongNames();
            case 19 -> edges();
            default -> swap();
        }
    }

    private void rate() {
        int quarter = upTo(3) == 0 ? upTo(17) - 1 : upTo(5);
        int n = upTo(10) - 1;
        if (upTo(2) == 0) {
            both("rate", () -> x.rate(quarter, n), () -> plain.rate(quarter, n));
        }
    }

    private void addFlight() {
        int airline = upTo(20) == 0 ? upTo(10) - 1 : upTo(3);
        int scheduled = upTo(20) == 0 ? upTo(245) - 2 : upTo(60);
        int earliest = upTo(20) == 0 ? upTo(305) - 2 : Math.max(0, scheduled - 15) + upTo(25);
        both("flight", () -> x.flight(airline, scheduled, earliest), () -> plain.flight(airline, scheduled, earliest));
    }

    private void rationSometimes() {
        if (upTo(3) == 0) {
            both("ration", x::ration, plain::ration);
        }
    }

    private void later() {
        int flight = someFlight();
        int earliest = upTo(8) == 0 ? upTo(305) - 2 : upTo(90);
        both("later", () -> x.later(flight, earliest) ? 1 : 0, () -> plain.later(flight, earliest) ? 1 : 0);
    }

    private void cancelSometimes() {
        int flight = someFlight();
        if (upTo(4) == 0) {
            both("cancel", () -> x.cancel(flight) ? 1 : 0, () -> plain.cancel(flight) ? 1 : 0);
        }
    }

    private void airborneSometimes() {
        int flight = someFlight();
        if (upTo(4) == 0) {
            both("airborne", () -> { x.airborne(flight); return 0; }, () -> { plain.airborne(flight); return 0; });
        }
    }

    private void swap() {
        int flight = someFlight();
        int other = someFlight();
        both("swap", () -> { x.swap(flight, other); return 0; }, () -> { plain.swap(flight, other); return 0; });
    }

    private void offer() {
        int give = someSlot();
        int want = someSlot();
        int airline = ownerOr(give, upTo(9) - 1);
        both("offer", () -> x.offer(airline, give, want), () -> plain.offer(airline, give, want));
        int second = ownerOr(want, upTo(9) - 1);
        if (upTo(2) == 0) {
            both("offer", () -> x.offer(second, want, give), () -> plain.offer(second, want, give));
        }
    }

    private void drop() {
        int offer = upTo(43) - 1;
        if (upTo(3) == 0) {
            both("drop", () -> x.drop(offer) ? 1 : 0, () -> plain.drop(offer) ? 1 : 0);
        }
    }

    private void wrongNames() {
        int any = upTo(4) == 0 ? (int) next() : upTo(70) - 5;
        int other = upTo(4) == 0 ? (int) next() : upTo(10) - 3;
        lookAt(any, other);
        both("rate", () -> x.rate(any, other), () -> plain.rate(any, other));
        both("swap", () -> { x.swap(any, other); return 0; }, () -> { plain.swap(any, other); return 0; });
    }

    /** One call with numbers at the document's bounds, or just beyond them. */
    private void edges() {
        int a = edge();
        int b = edge();
        int c = edge();
        switch (upTo(8)) {
            case 0 -> both("rate", () -> x.rate(a, b), () -> plain.rate(a, b));
            case 1 -> both("flight", () -> x.flight(a, b, c), () -> plain.flight(a, b, c));
            case 2 -> both("later", () -> x.later(a, b) ? 1 : 0, () -> plain.later(a, b) ? 1 : 0);
            case 3 -> both("cancel", () -> x.cancel(a) ? 1 : 0, () -> plain.cancel(a) ? 1 : 0);
            case 4 -> both("airborne", () -> { x.airborne(a); return 0; }, () -> { plain.airborne(a); return 0; });
            case 5 -> both("offer", () -> x.offer(a, b, c), () -> plain.offer(a, b, c));
            case 6 -> both("drop", () -> x.drop(a) ? 1 : 0, () -> plain.drop(a) ? 1 : 0);
            default -> lookAt(a, b);
        }
    }

    private int edge() {
        return EDGES[upTo(EDGES.length)];
    }

    private void lookAt(int any, int other) {
        both("slotOf", () -> x.slotOf(any), () -> plain.slotOf(any));
        both("ownerOf", () -> x.ownerOf(any), () -> plain.ownerOf(any));
        both("flightIn", () -> x.flightIn(any), () -> plain.flightIn(any));
        both("delay", () -> x.delay(other), () -> plain.delay(other));
        both("owned", () -> x.owned(other), () -> plain.owned(other));
        both("entry", () -> x.entry(any, other), () -> plain.entry(any, other));
    }

    private void look() {
        int flight = upTo(3) == 0 ? upTo(61) : someFlight();
        int minute = upTo(3) == 0 ? upTo(240) : someSlot();
        int airline = upTo(9) - 1;
        int i = upTo(2) == 0 ? plain.log() - 1 : upTo(plain.log() + 1);
        int what = upTo(4);
        switch (upTo(9)) {
            case 0, 1 -> both("slotOf", () -> x.slotOf(flight), () -> plain.slotOf(flight));
            case 2 -> both("ownerOf", () -> x.ownerOf(minute), () -> plain.ownerOf(minute));
            case 3 -> both("flightIn", () -> x.flightIn(minute), () -> plain.flightIn(minute));
            case 4 -> both("delay", () -> x.delay(airline), () -> plain.delay(airline));
            case 5 -> both("owned", () -> x.owned(airline), () -> plain.owned(airline));
            case 6 -> both("gaps", x::gaps, plain::gaps);
            case 7 -> both("log", x::log, plain::log);
            default -> both("entry", () -> x.entry(i, what), () -> plain.entry(i, what));
        }
    }

    private void both(String name, LongSupplier ours, LongSupplier due) {
        if (calls == CALLS) {
            return;
        }
        calls++;
        String got = Looks.answer(ours);
        String wanted = Looks.answer(due);
        tally.merge(name + (wanted.startsWith("throws") ? " " + wanted : wanted.equals("0") ? " 0" : " other"), 1, Integer::sum);
        if (changes(name)) {
            call = name;
        }
        if (!got.equals(wanted)) {
            System.out.println("run " + run + " after " + call + ": " + name + " answered " + got + ", due is " + wanted);
        }
        check.quiet(got.equals(wanted));
    }

    private static boolean changes(String name) {
        return "rate flight ration later cancel airborne swap offer drop trade compress".contains(name);
    }

    private int someFlight() {
        return upTo(30) == 0 ? upTo(64) - 2 : upTo(24);
    }

    private int someSlot() {
        int minute = upTo(75);
        while (minute < 75 && Looks.answer(slotAt(minute)).startsWith("throws") && upTo(12) != 0) {
            minute++;
        }
        return minute;
    }

    private LongSupplier slotAt(int minute) {
        return () -> plain.ownerOf(minute);
    }

    private int ownerOr(int minute, int other) {
        String owner = Looks.answer(slotAt(minute));
        return owner.startsWith("throws") || upTo(10) == 0 ? other : Integer.parseInt(owner);
    }

    private int upTo(int bound) {
        return (int) Math.floorMod(next(), (long) bound);
    }

    private long next() {
        seed = seed * 6364136223846793005L + 1442695040888963407L;
        return seed >> 33;
    }
}
