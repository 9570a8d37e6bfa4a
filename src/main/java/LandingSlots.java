import java.util.Arrays;
import java.util.NoSuchElementException;

/**
 * A desk for the landing slots of an airport with little capacity. README.md says how it is used;
 * the numbers at the public methods are those of the document's promises.
 */
public final class LandingSlots {

    public static final int NONE = -1;
    public static final int SWAPPED = 1, TRADED = 2, MOVED = 3, EMPTIED = 4, LEFT = 5;

    private static final int QUARTERS = 16;
    private static final int QUARTER_MINUTES = 15;
    private static final int MINUTES = QUARTERS * QUARTER_MINUTES;
    private static final int MOST_RATE = 8;
    private static final int AIRLINES = 8;
    private static final int MOST_FLIGHTS = 60;
    private static final int MOST_BEFORE_SCHEDULE = 15;
    private static final int LAST_EARLIEST = 300;
    private static final int MOST_OFFERS = 40;
    private static final int MOST_ENTRIES = 200;

    private final Slots slots;
    private final Flights flights;
    private final Offers offers;
    private final Entries entries;

    /** Promise 1. */
    public LandingSlots() {
        slots = new Slots();
        flights = new Flights();
        offers = new Offers();
        entries = new Entries();
    }

    /** Promise 2. */
    public int rate(int quarter, int n) throws IllegalArgumentException, IllegalStateException {
        if (quarter < 0 || quarter >= QUARTERS) {
            throw new IllegalArgumentException("no such quarter");
        }
        if (n < 0 || n > MOST_RATE) {
            throw new IllegalArgumentException("no such rate");
        }
        if (losesFrozenSlot(quarter, n)) {
            throw new IllegalStateException("a frozen slot would be none any more");
        }
        slots.setRate(quarter, n);
        return rationAll();
    }

    /** Promise 3. */
    public int flight(int airline, int scheduled, int earliest) throws IllegalArgumentException, IllegalStateException {
        checkAirline(airline);
        if (scheduled < 0 || scheduled >= MINUTES) {
            throw new IllegalArgumentException("scheduled for no minute of the time");
        }
        if (earliest < Math.max(0, scheduled - MOST_BEFORE_SCHEDULE) || earliest > LAST_EARLIEST) {
            throw new IllegalArgumentException("earliest minute out of bounds");
        }
        if (flights.count >= MOST_FLIGHTS) {
            throw new IllegalStateException("no room for a flight");
        }
        return flights.add(airline, scheduled, earliest);
    }

    /** Promise 4. */
    public int ration() {
        return rationAll();
    }

    /** Promise 5. */
    public int slotOf(int flight) throws IllegalArgumentException {
        checkFlight(flight);
        return flights.slot[flight];
    }

    /** Promise 6. */
    public int ownerOf(int minute) throws NoSuchElementException {
        checkSlot(minute);
        return slots.owner[minute];
    }

    /** Promise 7. */
    public int flightIn(int minute) throws NoSuchElementException {
        checkSlot(minute);
        return slots.flight[minute];
    }

    /** Promise 8. */
    public boolean later(int flight, int earliest) throws IllegalArgumentException, IllegalStateException {
        checkFlight(flight);
        if (earliest < flights.earliest[flight] || earliest > LAST_EARLIEST) {
            throw new IllegalArgumentException("earliest minute out of bounds");
        }
        checkPlannable(flight);
        flights.earliest[flight] = earliest;
        if (flights.slot[flight] == NONE || flights.canUse(flight, flights.slot[flight])) {
            return false;
        }
        takeOut(flight, EMPTIED);
        return true;
    }

    /** Promise 9. */
    public boolean cancel(int flight) throws IllegalArgumentException, IllegalStateException {
        checkFlight(flight);
        checkPlannable(flight);
        flights.cancelled[flight] = true;
        if (flights.slot[flight] == NONE) {
            return false;
        }
        takeOut(flight, LEFT);
        return true;
    }

    /** Promise 10. */
    public void airborne(int flight) throws IllegalArgumentException, IllegalStateException {
        checkFlight(flight);
        if (flights.airborne[flight] || flights.slot[flight] == NONE) {
            throw new IllegalStateException("airborne, or in no slot");
        }
        flights.airborne[flight] = true;
    }

    /** Promise 11. */
    public void swap(int flight, int other) throws IllegalArgumentException, IllegalStateException {
        checkFlight(flight);
        checkFlight(other);
        if (flight == other || flights.airline[flight] != flights.airline[other]) {
            throw new IllegalArgumentException("not two flights of one airline");
        }
        int from = flights.slot[flight];
        int to = flights.slot[other];
        if (from == NONE || to == NONE) {
            throw new IllegalStateException("one of them is in no slot");
        }
        if (!couldMove(flight, to) || !couldMove(other, from)) {
            throw new IllegalStateException("one of them is airborne or cannot use the other's slot");
        }
        putIn(to, flight);
        putIn(from, other);
        entries.add(SWAPPED, flight, from, to);
    }

    /** Promise 12. */
    public int offer(int airline, int give, int want) throws IllegalArgumentException, NoSuchElementException, IllegalStateException {
        checkAirline(airline);
        if (give == want) {
            throw new IllegalArgumentException("give and want are the same");
        }
        checkSlot(give);
        checkSlot(want);
        if (slots.owner[give] != airline) {
            throw new IllegalStateException("the airline does not own what it gives");
        }
        if (offers.count >= MOST_OFFERS) {
            throw new IllegalStateException("no room for an offer");
        }
        return offers.add(airline, give, want);
    }

    /** Promise 13. */
    public boolean drop(int offer) throws IllegalArgumentException {
        if (offer < 0 || offer >= offers.count) {
            throw new IllegalArgumentException("no such offer");
        }
        boolean stood = offers.standing[offer];
        offers.standing[offer] = false;
        return stood;
    }

    /** Promise 14. */
    public int trade() {
        int carriedOut = 0;
        for (int offer = 0; offer < offers.count; offer++) {
            if (isGood(offer)) {
                carriedOut += carryOutIfPossible(offer);
            }
        }
        return carriedOut;
    }

    /** Promise 15. */
    public int compress() {
        int moved = 0;
        // One pass is enough: a move comes from a later slot and ends in a later slot than those
        // passed before, so it makes no new gap with any of them.
        for (int minute = 0; minute < MINUTES; minute++) {
            int flight = flightToMoveTo(minute);
            if (flight != NONE) {
                moveForward(flight, minute);
                moved++;
            }
        }
        return moved;
    }

    /** Promise 16. */
    public int gaps() {
        int found = 0;
        for (int minute = 0; minute < MINUTES; minute++) {
            if (slots.isEmpty(minute)) {
                found += flightsThatCouldMoveTo(minute);
            }
        }
        return found;
    }

    /** Promise 17. */
    public int delay(int airline) throws IllegalArgumentException {
        checkAirlineOrNone(airline);
        int sum = 0;
        for (int flight = 0; flight < flights.count; flight++) {
            boolean counts = airline == NONE || flights.airline[flight] == airline;
            if (counts && flights.slot[flight] != NONE) {
                sum += flights.slot[flight] - flights.scheduled[flight];
            }
        }
        return sum;
    }

    /** Promise 18. */
    public int owned(int airline) throws IllegalArgumentException {
        checkAirlineOrNone(airline);
        return slots.countWithOwner(airline);
    }

    /** Promise 19. */
    public int log() {
        return entries.count;
    }

    /** Promise 20. */
    public int entry(int i, int what) throws IndexOutOfBoundsException, IllegalArgumentException {
        if (i < 0 || i >= entries.count) {
            throw new IndexOutOfBoundsException("no such entry");
        }
        switch (what) {
            case 0:
                return entries.kind[i];
            case 1:
                return entries.flight[i];
            case 2:
                return entries.from[i];
            case 3:
                return entries.to[i];
            default:
                throw new IllegalArgumentException("an entry has no such part");
        }
    }

    private void checkFlight(int flight) {
        if (flight < 0 || flight >= flights.count) {
            throw new IllegalArgumentException("no such flight");
        }
    }

    private void checkAirline(int airline) {
        if (airline < 0 || airline >= AIRLINES) {
            throw new IllegalArgumentException("no such airline");
        }
    }

    private void checkAirlineOrNone(int airline) {
        if (airline != NONE) {
            checkAirline(airline);
        }
    }

    private void checkSlot(int minute) {
        if (!slots.isSlot(minute)) {
            throw new NoSuchElementException("no slot at that minute");
        }
    }

    private void checkPlannable(int flight) {
        if (!flights.isPlannable(flight)) {
            throw new IllegalStateException("cancelled or airborne");
        }
    }

    private boolean isFrozen(int minute) {
        int flight = slots.flight[minute];
        return flight != NONE && flights.airborne[flight];
    }

    private boolean losesFrozenSlot(int quarter, int n) {
        int start = quarter * QUARTER_MINUTES;
        for (int offset = 0; offset < QUARTER_MINUTES; offset++) {
            if (isFrozen(start + offset) && !Slots.isOffsetAtRate(offset, n)) {
                return true;
            }
        }
        return false;
    }

    private int rationAll() {
        clearWhatIsNotFrozen();
        entries.clear();
        int without = 0;
        for (int i = 0; i < flights.count; i++) {
            int flight = flights.bySchedule[i];
            if (flights.isPlannable(flight) && !putInFirstSlot(flight)) {
                without++;
            }
        }
        return without;
    }

    private void clearWhatIsNotFrozen() {
        // Over all minutes, since some may just have stopped being slots.
        for (int minute = 0; minute < MINUTES; minute++) {
            if (!isFrozen(minute)) {
                slots.flight[minute] = NONE;
                slots.owner[minute] = NONE;
            }
        }
        for (int flight = 0; flight < flights.count; flight++) {
            if (!flights.airborne[flight]) {
                flights.slot[flight] = NONE;
            }
        }
    }

    private boolean putInFirstSlot(int flight) {
        for (int minute = flights.earliest[flight]; minute < MINUTES; minute++) {
            if (slots.isEmpty(minute)) {
                putIn(minute, flight);
                slots.owner[minute] = flights.airline[flight];
                return true;
            }
        }
        return false;
    }

    private void putIn(int minute, int flightOrNone) {
        slots.flight[minute] = flightOrNone;
        if (flightOrNone != NONE) {
            flights.slot[flightOrNone] = minute;
        }
    }

    private void takeOut(int flight, int kind) {
        int minute = flights.slot[flight];
        slots.flight[minute] = NONE;
        flights.slot[flight] = NONE;
        entries.add(kind, flight, minute, NONE);
    }

    private boolean couldMove(int flight, int minute) {
        return !flights.airborne[flight] && flights.canUse(flight, minute);
    }

    private boolean isGood(int offer) {
        int give = offers.give[offer];
        int want = offers.want[offer];
        return offers.standing[offer]
            && slots.isSlot(give)
            && slots.owner[give] == offers.airline[offer]
            && !isFrozen(give)
            && slots.isSlot(want)
            && !isFrozen(want)
            && contentCanUse(give, want);
    }

    private boolean contentCanUse(int give, int want) {
        int flight = slots.flight[give];
        return flight == NONE || flights.canUse(flight, want);
    }

    private int carryOutIfPossible(int offer) {
        int give = offers.give[offer];
        int want = offers.want[offer];
        if (slots.owner[want] == NONE) {
            endAsTraded(offer);
            exchange(give, want);
            return 1;
        }
        int partner = partnerOf(offer);
        if (partner == NONE) {
            return 0;
        }
        endAsTraded(offer);
        endAsTraded(partner);
        exchange(give, want);
        return 2;
    }

    private int partnerOf(int offer) {
        for (int other = offer + 1; other < offers.count; other++) {
            if (offers.areOpposite(offer, other) && isGood(other)) {
                return other;
            }
        }
        return NONE;
    }

    private void endAsTraded(int offer) {
        int give = offers.give[offer];
        offers.standing[offer] = false;
        entries.add(TRADED, slots.flight[give], give, offers.want[offer]);
    }

    private void exchange(int one, int other) {
        int flight = slots.flight[one];
        int owner = slots.owner[one];
        putIn(one, slots.flight[other]);
        slots.owner[one] = slots.owner[other];
        putIn(other, flight);
        slots.owner[other] = owner;
    }

    private int flightsThatCouldMoveTo(int minute) {
        int found = 0;
        for (int flight = 0; flight < flights.count; flight++) {
            if (flights.slot[flight] > minute && couldMove(flight, minute)) {
                found++;
            }
        }
        return found;
    }

    private int flightToMoveTo(int minute) {
        if (!slots.isEmpty(minute)) {
            return NONE;
        }
        int first = NONE;
        for (int from = minute + 1; from < MINUTES; from++) {
            int flight = slots.flight[from];
            if (flight != NONE && couldMove(flight, minute)) {
                if (flights.airline[flight] == slots.owner[minute]) {
                    return flight;
                }
                if (first == NONE) {
                    first = flight;
                }
            }
        }
        return first;
    }

    private void moveForward(int flight, int to) {
        int from = flights.slot[flight];
        putIn(from, NONE);
        putIn(to, flight);
        int airline = flights.airline[flight];
        int ownerBefore = slots.owner[to];
        if (ownerBefore != airline) {
            slots.owner[from] = ownerBefore;
        }
        slots.owner[to] = airline;
        entries.add(MOVED, flight, from, to);
    }

    /** The slots, by minute. */
    private static final class Slots {
        final boolean[] open = new boolean[MINUTES];
        final int[] owner = new int[MINUTES];
        final int[] flight = new int[MINUTES];

        Slots() {
            Arrays.fill(owner, NONE);
            Arrays.fill(flight, NONE);
        }

        boolean isSlot(int minute) {
            return minute >= 0 && minute < MINUTES && open[minute];
        }

        boolean isEmpty(int minute) {
            return isSlot(minute) && flight[minute] == NONE;
        }

        static boolean isOffsetAtRate(int offset, int n) {
            for (int i = 0; i < n; i++) {
                if (QUARTER_MINUTES * i / n == offset) {
                    return true;
                }
            }
            return false;
        }

        void setRate(int quarter, int n) {
            int start = quarter * QUARTER_MINUTES;
            for (int offset = 0; offset < QUARTER_MINUTES; offset++) {
                open[start + offset] = isOffsetAtRate(offset, n);
            }
        }

        int countWithOwner(int airlineOrNone) {
            int found = 0;
            for (int minute = 0; minute < MINUTES; minute++) {
                if (open[minute] && owner[minute] == airlineOrNone) {
                    found++;
                }
            }
            return found;
        }
    }

    /** The flights, by number. */
    private static final class Flights {
        final int[] airline = new int[MOST_FLIGHTS];
        final int[] scheduled = new int[MOST_FLIGHTS];
        final int[] earliest = new int[MOST_FLIGHTS];
        final int[] slot = new int[MOST_FLIGHTS];
        final boolean[] cancelled = new boolean[MOST_FLIGHTS];
        final boolean[] airborne = new boolean[MOST_FLIGHTS];
        // Kept in order as flights are added, so that rationing need not sort.
        final int[] bySchedule = new int[MOST_FLIGHTS];
        int count;

        int add(int itsAirline, int itsScheduled, int itsEarliest) {
            int number = count;
            airline[number] = itsAirline;
            scheduled[number] = itsScheduled;
            earliest[number] = itsEarliest;
            slot[number] = NONE;
            insertBySchedule(number);
            count++;
            return number;
        }

        private void insertBySchedule(int number) {
            int place = number;
            while (place > 0 && scheduled[bySchedule[place - 1]] > scheduled[number]) {
                bySchedule[place] = bySchedule[place - 1];
                place--;
            }
            bySchedule[place] = number;
        }

        boolean isPlannable(int flight) {
            return !cancelled[flight] && !airborne[flight];
        }

        boolean canUse(int flight, int minute) {
            return minute >= earliest[flight];
        }
    }

    /** The offers, by number. */
    private static final class Offers {
        final int[] airline = new int[MOST_OFFERS];
        final int[] give = new int[MOST_OFFERS];
        final int[] want = new int[MOST_OFFERS];
        final boolean[] standing = new boolean[MOST_OFFERS];
        int count;

        int add(int itsAirline, int itsGive, int itsWant) {
            int number = count;
            airline[number] = itsAirline;
            give[number] = itsGive;
            want[number] = itsWant;
            standing[number] = true;
            count++;
            return number;
        }

        boolean areOpposite(int one, int other) {
            return airline[one] != airline[other] && give[one] == want[other] && want[one] == give[other];
        }
    }

    /** The log, by entry. */
    private static final class Entries {
        final int[] kind = new int[MOST_ENTRIES];
        final int[] flight = new int[MOST_ENTRIES];
        final int[] from = new int[MOST_ENTRIES];
        final int[] to = new int[MOST_ENTRIES];
        int count;

        void clear() {
            count = 0;
        }

        void add(int itsKind, int itsFlight, int itsFrom, int itsTo) {
            if (count < MOST_ENTRIES) {
                kind[count] = itsKind;
                flight[count] = itsFlight;
                from[count] = itsFrom;
                to[count] = itsTo;
                count++;
            }
        }
    }
}
