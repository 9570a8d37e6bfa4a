import java.util.ArrayList;
import java.util.Comparator;
import java.util.List;
import java.util.NoSuchElementException;
import java.util.TreeMap;

/**
 * The document's terms once more, as literally as they can be written and without a thought for
 * speed or room, to compare the class with.
 */
final class PlainDesk {
    private static final class Slot {
        final int minute;
        int owner = -1;
        Flight flight = null;

        Slot(int minute) {
            this.minute = minute;
        }

        boolean frozen() {
            return flight != null && flight.airborne;
        }
    }

    private static final class Flight {
        int number;
        int airline;
        int scheduled;
        int earliest;
        boolean cancelled;
        boolean airborne;

        boolean canUse(Slot slot) {
            return slot.minute >= earliest;
        }
    }

    private static final class Offer {
        int airline;
        int give;
        int want;
        boolean stands = true;
    }

    private record Gap(Slot empty, Slot from) { }

    private final TreeMap<Integer, Slot> slots = new TreeMap<>();
    private final List<Flight> flights = new ArrayList<>();
    private final List<Offer> offers = new ArrayList<>();
    private final List<int[]> entries = new ArrayList<>();

    int rate(int quarter, int n) {
        argument(quarter >= 0 && quarter <= 15 && n >= 0 && n <= 8);
        TreeMap<Integer, Slot> next = new TreeMap<>(slots);
        next.keySet().removeIf(minute -> minute / 15 == quarter);
        for (int i = 0; i < n; i++) {
            int minute = (int) Math.floor(15 * quarter + 15.0 * i / n);
            next.put(minute, slots.containsKey(minute) ? slots.get(minute) : new Slot(minute));
        }
        for (Slot slot : slots.values()) {
            state(!slot.frozen() || next.containsKey(slot.minute));
        }
        slots.clear();
        slots.putAll(next);
        return ration();
    }

    int flight(int airline, int scheduled, int earliest) {
        argument(airline >= 0 && airline <= 7);
        argument(scheduled >= 0 && scheduled <= 239);
        argument(earliest >= scheduled - 15 && earliest >= 0 && earliest <= 300);
        state(flights.size() < 60);
        Flight flight = new Flight();
        flight.number = flights.size();
        flight.airline = airline;
        flight.scheduled = scheduled;
        flight.earliest = earliest;
        flights.add(flight);
        return flight.number;
    }

    int ration() {
        for (Slot slot : slots.values()) {
            if (!slot.frozen()) {
                slot.flight = null;
                slot.owner = -1;
            }
        }
        entries.clear();
        List<Flight> ordered = new ArrayList<>(flights);
        ordered.removeIf(flight -> flight.cancelled || flight.airborne);
        ordered.sort(Comparator.<Flight>comparingInt(f -> f.scheduled).thenComparingInt(f -> f.number));
        int without = 0;
        for (Flight flight : ordered) {
            Slot first = slots.values().stream()
                .filter(slot -> slot.flight == null && flight.canUse(slot)).findFirst().orElse(null);
            if (first == null) {
                without++;
            } else {
                first.flight = flight;
                first.owner = flight.airline;
            }
        }
        return without;
    }

    int slotOf(int number) {
        Slot slot = slotWith(named(number));
        return slot == null ? -1 : slot.minute;
    }

    int ownerOf(int minute) {
        return slotAt(minute).owner;
    }

    int flightIn(int minute) {
        return numberOf(slotAt(minute).flight);
    }

    boolean later(int number, int earliest) {
        Flight flight = named(number);
        argument(earliest >= flight.earliest && earliest <= 300);
        state(!flight.cancelled && !flight.airborne);
        flight.earliest = earliest;
        Slot slot = slotWith(flight);
        if (slot == null || flight.canUse(slot)) {
            return false;
        }
        slot.flight = null;
        write(4, number, slot.minute, -1);
        return true;
    }

    boolean cancel(int number) {
        Flight flight = named(number);
        state(!flight.cancelled && !flight.airborne);
        flight.cancelled = true;
        Slot slot = slotWith(flight);
        if (slot == null) {
            return false;
        }
        slot.flight = null;
        write(5, number, slot.minute, -1);
        return true;
    }

    void airborne(int number) {
        Flight flight = named(number);
        state(!flight.airborne);
        state(slotWith(flight) != null);
        flight.airborne = true;
    }

    void swap(int number, int otherNumber) {
        Flight flight = named(number);
        Flight other = named(otherNumber);
        argument(flight != other);
        argument(flight.airline == other.airline);
        Slot from = slotWith(flight);
        Slot to = slotWith(other);
        state(from != null && to != null);
        state(!flight.airborne && !other.airborne);
        state(flight.canUse(to) && other.canUse(from));
        from.flight = other;
        to.flight = flight;
        write(1, number, from.minute, to.minute);
    }

    int offer(int airline, int give, int want) {
        argument(airline >= 0 && airline <= 7);
        argument(give != want);
        slotAt(give);
        slotAt(want);
        state(slotAt(give).owner == airline);
        state(offers.size() < 40);
        Offer offer = new Offer();
        offer.airline = airline;
        offer.give = give;
        offer.want = want;
        offers.add(offer);
        return offers.size() - 1;
    }

    boolean drop(int number) {
        argument(number >= 0 && number < offers.size());
        boolean stood = offers.get(number).stands;
        offers.get(number).stands = false;
        return stood;
    }

    int trade() {
        int carriedOut = 0;
        for (int i = 0; i < offers.size(); i++) {
            Offer offer = offers.get(i);
            if (good(offer) && slots.get(offer.want).owner == -1) {
                carryOut(offer);
                exchange(slots.get(offer.give), slots.get(offer.want));
                carriedOut++;
            } else if (good(offer)) {
                Offer partner = partner(i);
                if (partner != null) {
                    carryOut(offer);
                    carryOut(partner);
                    exchange(slots.get(offer.give), slots.get(offer.want));
                    carriedOut += 2;
                }
            }
        }
        return carriedOut;
    }

    int compress() {
        int moved = 0;
        for (List<Gap> gaps = allGaps(); !gaps.isEmpty(); gaps = allGaps()) {
            // The gaps come by the empty slot, and then by the slot of the flight.
            Slot s = gaps.get(0).empty;
            List<Gap> withS = new ArrayList<>(gaps);
            withS.removeIf(gap -> gap.empty != s);
            List<Gap> own = new ArrayList<>(withS);
            own.removeIf(gap -> gap.from.flight.airline != s.owner);
            Slot t = own.isEmpty() ? withS.get(0).from : own.get(0).from;
            move(t, s);
            moved++;
        }
        return moved;
    }

    int gaps() {
        return allGaps().size();
    }

    int delay(int airline) {
        argument(airline >= -1 && airline <= 7);
        int sum = 0;
        for (Slot slot : slots.values()) {
            if (slot.flight != null && (airline == -1 || slot.flight.airline == airline)) {
                sum += slot.minute - slot.flight.scheduled;
            }
        }
        return sum;
    }

    int owned(int airline) {
        argument(airline >= -1 && airline <= 7);
        return (int) slots.values().stream().filter(slot -> slot.owner == airline).count();
    }

    int log() {
        return entries.size();
    }

    int entry(int i, int what) {
        if (i < 0 || i >= entries.size()) {
            throw new IndexOutOfBoundsException();
        }
        argument(what >= 0 && what <= 3);
        return entries.get(i)[what];
    }

    private void move(Slot t, Slot s) {
        Flight flight = t.flight;
        t.flight = null;
        s.flight = flight;
        if (s.owner == -1) {
            t.owner = -1;
        } else if (s.owner != flight.airline) {
            t.owner = s.owner;
        }
        s.owner = flight.airline;
        write(3, flight.number, t.minute, s.minute);
    }

    private List<Gap> allGaps() {
        List<Gap> found = new ArrayList<>();
        for (Slot empty : slots.values()) {
            if (empty.flight == null) {
                for (Slot from : slots.tailMap(empty.minute, false).values()) {
                    if (from.flight != null && !from.flight.airborne && from.flight.canUse(empty)) {
                        found.add(new Gap(empty, from));
                    }
                }
            }
        }
        return found;
    }

    private boolean good(Offer offer) {
        Slot give = slots.get(offer.give);
        Slot want = slots.get(offer.want);
        if (!offer.stands || give == null || want == null) {
            return false;
        }
        if (give.owner != offer.airline || give.frozen() || want.frozen()) {
            return false;
        }
        return give.flight == null || give.flight.canUse(want);
    }

    private Offer partner(int number) {
        Offer offer = offers.get(number);
        for (Offer other : offers.subList(number + 1, offers.size())) {
            boolean opposite = other.give == offer.want && other.want == offer.give;
            if (other.airline != offer.airline && opposite && good(other)) {
                return other;
            }
        }
        return null;
    }

    private void carryOut(Offer offer) {
        offer.stands = false;
        write(2, numberOf(slots.get(offer.give).flight), offer.give, offer.want);
    }

    private static void exchange(Slot one, Slot other) {
        Flight flight = one.flight;
        int owner = one.owner;
        one.flight = other.flight;
        one.owner = other.owner;
        other.flight = flight;
        other.owner = owner;
    }

    private void write(int kind, int flight, int from, int to) {
        if (entries.size() < 200) {
            entries.add(new int[] {kind, flight, from, to});
        }
    }

    private Flight named(int number) {
        argument(number >= 0 && number < flights.size());
        return flights.get(number);
    }

    private Slot slotAt(int minute) {
        if (!slots.containsKey(minute)) {
            throw new NoSuchElementException();
        }
        return slots.get(minute);
    }

    private Slot slotWith(Flight flight) {
        return slots.values().stream().filter(slot -> slot.flight == flight).findFirst().orElse(null);
    }

    private static int numberOf(Flight flight) {
        return flight == null ? -1 : flight.number;
    }

    private static void argument(boolean fine) {
        if (!fine) {
            throw new IllegalArgumentException();
        }
    }

    private static void state(boolean fine) {
        if (!fine) {
            throw new IllegalStateException();
        }
    }
}
