/** Promises 12 to 14: offer, drop, trade. */
public final class TradingTest {
    private static final int NONE = LandingSlots.NONE;
    private static final Checks check = new Checks();

    public static void main(String[] args) {
        offerNumbers();
        offerRefused();
        fortyOffers();
        drop();
        tradeForSlotWithoutOwner();
        tradeOfEmptySlot();
        tradeBetweenAirlines();
        tradeTakesFirstPartner();
        tradeNeedsAnotherAirline();
        tradeNeedsGoodOffers();
        tradeOfFrozenSlots();
        tradeWithLostSlots();
        tradeGoesByNumbersOnce();
        tradeOfFortyOffers();
        offersOutliveRationing();
        check.finish();
    }

    private static void offerNumbers() {
        LandingSlots x = Desks.threeIn();
        check.same("first", x.offer(0, 0, 5), 0);
        check.same("the same once more", x.offer(0, 0, 5), 1);
        check.same("for a slot without owner", x.offer(2, 10, 25), 2);
        x.later(1, 12);
        check.same("good or not now", x.offer(1, 5, 0), 3);
        x.airborne(2);
        check.same("frozen slots too", x.offer(2, 10, 0), 4);
        check.same("nothing logged", x.log(), 1);
        check.slot("nothing exchanged", x, 0, 0, 0);
    }

    private static void offerRefused() {
        LandingSlots x = Desks.threeIn();
        check.badArgument("airline -1", () -> x.offer(-1, 15, 0));
        check.badArgument("airline 8", () -> x.offer(8, 0, 5));
        check.badArgument("the same slot", () -> x.offer(0, 0, 0));
        check.badArgument("the same minute, though no slot", () -> x.offer(0, 3, 3));
        check.noElement("give is no slot", () -> x.offer(0, 1, 5));
        check.noElement("want is no slot", () -> x.offer(0, 0, 6));
        check.noElement("minutes out of the time", () -> x.offer(0, -1, 5));
        check.noElement("minutes out of the time", () -> x.offer(0, 0, 240));
        check.noElement("no slot before no owner", () -> x.offer(1, 0, 6));
        check.badState("another's", () -> x.offer(1, 0, 5));
        check.badState("nobody's", () -> x.offer(1, 15, 5));
        check.same("refused ones have no number", x.offer(0, 0, 5), 0);
    }

    private static void fortyOffers() {
        LandingSlots x = Desks.threeIn();
        for (int i = 0; i < 40; i++) {
            check.same("number", x.offer(0, 0, 5), i);
        }
        check.badState("a 41st", () -> x.offer(0, 0, 5));
        check.same("forty good ones, and none to trade with", x.trade(), 0);
        check.yes("the last one is there", x.drop(39));
        check.badState("a dropped one makes no room", () -> x.offer(0, 0, 5));
        check.badArgument("argument first", () -> x.offer(0, 5, 5));
        check.noElement("slot first", () -> x.offer(0, 0, 6));
        check.badArgument("no offer 40", () -> x.drop(40));
    }

    private static void drop() {
        LandingSlots x = Desks.threeIn();
        check.badArgument("none yet", () -> x.drop(0));
        x.offer(0, 0, 15);
        x.offer(1, 5, 20);
        check.badArgument("offer -1", () -> x.drop(-1));
        check.badArgument("offer 2", () -> x.drop(2));
        check.yes("was standing", x.drop(0));
        check.no("dropped before", x.drop(0));
        check.same("the other one is carried out", x.trade(), 1);
        check.slot("dropped", x, 0, 0, 0);
        check.no("carried out before", x.drop(1));
        check.same("drops are not logged", x.log(), 1);
    }

    private static void tradeForSlotWithoutOwner() {
        LandingSlots x = Desks.threeIn();
        x.offer(0, 0, 20);
        check.same("one", x.trade(), 1);
        check.slot("given", x, 0, NONE, NONE);
        check.slot("got", x, 20, 0, 0);
        check.same("one entry", x.log(), 1);
        check.entry("trade", x, 0, LandingSlots.TRADED, 0, 0, 20);
        check.same("it stands no more", x.trade(), 0);
    }

    private static void tradeOfEmptySlot() {
        LandingSlots x = Desks.threeIn();
        x.cancel(0);
        x.offer(0, 0, 20);
        check.same("one", x.trade(), 1);
        check.slot("given", x, 0, NONE, NONE);
        check.slot("got", x, 20, 0, NONE);
        check.entry("no flight in it", x, 1, LandingSlots.TRADED, NONE, 0, 20);
        x.offer(0, 20, 5);
        x.offer(1, 5, 20);
        check.same("two", x.trade(), 2);
        check.slot("an empty slot for a taken one", x, 5, 0, NONE);
        check.slot("an empty slot for a taken one", x, 20, 1, 1);
        check.entry("the first", x, 2, LandingSlots.TRADED, NONE, 20, 5);
        check.entry("the second", x, 3, LandingSlots.TRADED, 1, 5, 20);
    }

    private static void tradeBetweenAirlines() {
        LandingSlots x = Desks.threeIn();
        x.offer(2, 10, 0);
        check.same("alone", x.trade(), 0);
        x.offer(0, 0, 10);
        check.same("two by one exchange", x.trade(), 2);
        check.slot("exchanged", x, 0, 2, 2);
        check.slot("exchanged", x, 10, 0, 0);
        check.slot("not touched", x, 5, 1, 1);
        check.same("two entries", x.log(), 2);
        check.entry("the first", x, 0, LandingSlots.TRADED, 2, 10, 0);
        check.entry("the second", x, 1, LandingSlots.TRADED, 0, 0, 10);
        check.no("the first stands no more", x.drop(0));
        check.no("the second stands no more", x.drop(1));
    }

    private static void tradeTakesFirstPartner() {
        LandingSlots x = Desks.threeIn();
        x.offer(1, 5, 0);
        x.offer(1, 5, 10);
        x.offer(0, 0, 10);
        x.offer(0, 0, 5);
        x.offer(0, 0, 5);
        check.same("two", x.trade(), 2);
        check.yes("gives what it wants, but wants another", x.drop(2));
        check.no("the first partner", x.drop(3));
        check.yes("the second one still stands", x.drop(4));
        LandingSlots y = Desks.threeIn();
        y.offer(1, 5, 0);
        y.offer(0, 0, 5);
        y.offer(0, 0, 5);
        y.drop(1);
        check.same("two", y.trade(), 2);
        check.no("a dropped one is no partner", y.drop(2));
        check.slot("exchanged", y, 0, 1, 1);
    }

    private static void tradeNeedsAnotherAirline() {
        LandingSlots x = new LandingSlots();
        x.rate(0, 2);
        x.flight(0, 0, 0);
        x.flight(0, 1, 0);
        x.ration();
        x.offer(0, 0, 7);
        x.offer(0, 7, 0);
        check.same("an airline does not trade with itself", x.trade(), 0);
        check.slot("nothing exchanged", x, 0, 0, 0);
    }

    private static void tradeNeedsGoodOffers() {
        LandingSlots x = Desks.threeIn();
        x.later(1, 3);
        x.offer(1, 5, 0);
        x.offer(0, 0, 5);
        check.same("flight 1 cannot use 0", x.trade(), 0);
        x.offer(0, 0, 15);
        x.later(0, 16);
        check.same("its slot is empty, so anything can be used", x.slotOf(0), NONE);
        check.same("and 15 has no owner", x.trade(), 1);
        check.slot("given empty", x, 15, 0, NONE);
        LandingSlots y = Desks.threeIn();
        y.later(1, 3);
        y.offer(0, 0, 5);
        y.offer(1, 5, 0);
        check.same("a partner that is not good", y.trade(), 0);
        y.cancel(1);
        check.same("an empty give is good", y.trade(), 2);
        check.slot("exchanged", y, 0, 1, NONE);
        check.slot("exchanged", y, 5, 0, 0);
        LandingSlots z = Desks.threeIn();
        z.offer(0, 0, 15);
        z.offer(0, 0, 20);
        check.same("what it does not own any more it cannot give", z.trade(), 1);
        check.yes("the second one still stands", z.drop(1));
        check.slot("only the first one", z, 15, 0, 0);
    }

    private static void tradeOfFrozenSlots() {
        LandingSlots x = Desks.threeIn();
        x.airborne(0);
        x.offer(0, 0, 15);
        check.same("give is frozen", x.trade(), 0);
        x.offer(0, 0, 5);
        x.offer(1, 5, 0);
        check.same("give and want are frozen", x.trade(), 0);
        check.slot("nothing exchanged", x, 0, 0, 0);
        LandingSlots y = Desks.threeIn();
        y.airborne(0);
        y.offer(1, 5, 0);
        y.offer(0, 0, 5);
        check.same("want and give are frozen", y.trade(), 0);
        check.slot("nothing exchanged", y, 5, 1, 1);
    }

    private static void tradeWithLostSlots() {
        LandingSlots x = Desks.threeIn();
        x.offer(0, 0, 20);
        x.offer(1, 5, 15);
        x.rate(1, 1);
        check.same("20 is no slot any more", x.trade(), 1);
        check.slot("not traded", x, 0, 0, 0);
        check.slot("traded", x, 15, 1, 1);
        x.rate(1, 3);
        check.same("20 is a slot again", x.trade(), 1);
        check.slot("traded", x, 20, 0, 0);
        LandingSlots y = Desks.threeIn();
        y.offer(1, 5, 15);
        y.rate(0, 1);
        check.same("5 is no slot any more", y.trade(), 0);
        check.slot("nothing exchanged", y, 0, 0, 0);
    }

    private static void tradeGoesByNumbersOnce() {
        LandingSlots x = Desks.threeIn();
        x.offer(1, 5, 0);
        x.offer(0, 0, 15);
        check.same("0 has an owner when the first one is looked at", x.trade(), 1);
        check.slot("freed by the second", x, 0, NONE, NONE);
        check.same("the next trading finds it free", x.trade(), 1);
        check.slot("then", x, 0, 1, 1);
        check.slot("then", x, 5, NONE, NONE);
        LandingSlots y = Desks.threeIn();
        y.offer(0, 0, 15);
        y.offer(1, 5, 0);
        check.same("a greater number finds it free at once", y.trade(), 2);
        check.slot("at once", y, 0, 1, 1);
        check.entry("in order", y, 0, LandingSlots.TRADED, 0, 0, 15);
        check.entry("in order", y, 1, LandingSlots.TRADED, 1, 5, 0);
        LandingSlots z = Desks.threeIn();
        z.cancel(0);
        z.offer(1, 5, 0);
        check.same("an empty slot with an owner is not free", z.trade(), 0);
        check.slot("not traded", z, 5, 1, 1);
    }

    private static void tradeOfFortyOffers() {
        LandingSlots x = Desks.threeIn();
        for (int i = 0; i < 39; i++) {
            x.offer(0, 0, 5);
        }
        check.same("none to trade with", x.trade(), 0);
        check.same("the last there can be", x.offer(1, 5, 0), 39);
        check.same("the first with the last", x.trade(), 2);
        check.no("the first", x.drop(0));
        check.yes("the second", x.drop(1));
        check.no("the last", x.drop(39));
        check.same("nobody else gives 5", x.trade(), 0);
    }

    private static void offersOutliveRationing() {
        LandingSlots x = Desks.threeIn();
        x.offer(0, 0, 15);
        x.ration();
        check.same("it still stands", x.trade(), 1);
        x.ration();
        check.no("but not again", x.drop(0));
        check.slot("rationed anew", x, 0, 0, 0);
    }
}
