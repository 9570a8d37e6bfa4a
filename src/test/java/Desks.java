/** Desks that several tests begin with; each call makes a new object, in far fewer than 512 calls. */
final class Desks {
    private Desks() { }

    /**
     * Something of everything. Slots 0, 5, 10, 15, 20, 25 and the eight of the last quarter, 225 .. 238.
     * Flights: 0 in 0, 1 in 5, 3 in 10, 2 in 15, 5 in 25 and airborne, 8 in 225, 9 in 226; 4 emptied,
     * 7 cancelled, 6 without a slot that it can use, 10 not rationed yet. Airlines: 0 has 0, 1 and 6,
     * 1 has 2, 3 and 10, 2 has 4 and 5, 3 has 7, 8 and 9. Offers: 0 carried out, 2 dropped, 1, 3, 4
     * and 5 standing, of which 4 and 5 can be carried out together. The log has all five kinds.
     */
    static LandingSlots busy() {
        LandingSlots x = new LandingSlots();
        x.rate(0, 3);
        x.rate(1, 3);
        x.rate(15, 8);
        x.flight(0, 0, 0);
        x.flight(0, 1, 1);
        x.flight(1, 2, 2);
        x.flight(1, 3, 3);
        x.flight(2, 4, 4);
        x.flight(2, 5, 5);
        x.flight(0, 239, 300);
        for (int i = 0; i < 3; i++) {
            x.flight(3, 239, 224);
        }
        x.ration();
        x.flight(1, 6, 6);
        x.swap(2, 3);
        x.airborne(5);
        x.later(4, 21);
        x.cancel(7);
        x.compress();
        x.offer(3, 228, 230);
        x.trade();
        x.offer(0, 0, 10);
        x.offer(1, 10, 0);
        x.drop(2);
        x.offer(1, 10, 0);
        x.offer(0, 5, 15);
        x.offer(1, 15, 5);
        return x;
    }

    /** All 128 slots there can be. */
    static LandingSlots allSlots() {
        LandingSlots x = new LandingSlots();
        for (int quarter = 0; quarter < 16; quarter++) {
            x.rate(quarter, 8);
        }
        return x;
    }

    /** All slots and all 60 flights, scheduled for 0, of airlines 0 .. 7 in turn, in the first 60 slots. */
    static LandingSlots sixtyFlights() {
        LandingSlots x = allSlots();
        for (int i = 0; i < 60; i++) {
            x.flight(i % 8, 0, 0);
        }
        x.ration();
        return x;
    }

    /** Slots 0, 5, 10 of airlines 0, 1, 2 with flights of these numbers, and 15, 20, 25 without owner. */
    static LandingSlots threeIn() {
        LandingSlots x = new LandingSlots();
        x.rate(0, 3);
        x.rate(1, 3);
        x.flight(0, 0, 0);
        x.flight(1, 1, 0);
        x.flight(2, 2, 0);
        x.ration();
        return x;
    }

    /** As threeIn, with 40 offers of airline 0. */
    static LandingSlots fortyOffers() {
        LandingSlots x = threeIn();
        for (int i = 0; i < 40; i++) {
            x.offer(0, 0, 5);
        }
        return x;
    }

    /**
     * Slots 0, 5, 10, 15, 20, 25; flights 0 and 1 of airline 0 in 0 and 5, 2 of airline 1 in 10, and
     * as many entries in the log, of flights 0 and 1 that change places.
     */
    static LandingSlots logOf(int entries) {
        LandingSlots x = new LandingSlots();
        x.rate(0, 3);
        x.rate(1, 3);
        x.flight(0, 0, 0);
        x.flight(0, 1, 0);
        x.flight(1, 2, 0);
        x.ration();
        for (int i = 0; i < entries; i++) {
            x.swap(0, 1);
        }
        return x;
    }
}
