import java.util.ArrayList;
import java.util.List;
import java.util.function.LongSupplier;
import java.util.function.Supplier;

/**
 * All that can be seen of a desk, and all that it would do next. A desk is given as a recipe, and each
 * part is read from a desk made anew, since an object answers 512 calls alone and some looks change it.
 */
final class Looks {
    private static final int ENTRIES_A_DESK = 50;

    private final Supplier<LandingSlots> recipe;
    private final List<String> seen = new ArrayList<>();

    private Looks(Supplier<LandingSlots> recipe) {
        this.recipe = recipe;
    }

    static List<String> of(Supplier<LandingSlots> recipe) {
        Looks looks = new Looks(recipe);
        looks.slots();
        looks.flights();
        looks.sums();
        looks.entries();
        looks.earliestMinutes();
        looks.offers();
        looks.statesOfFlights();
        looks.whatComesNext();
        return looks.seen;
    }

    private void slots() {
        LandingSlots x = recipe.get();
        LandingSlots y = recipe.get();
        for (int minute = 0; minute < 240; minute++) {
            int m = minute;
            see("ownerOf " + m, () -> x.ownerOf(m));
            see("flightIn " + m, () -> y.flightIn(m));
        }
    }

    private void flights() {
        LandingSlots x = recipe.get();
        for (int flight = 0; flight < 60; flight++) {
            int f = flight;
            see("slotOf " + f, () -> x.slotOf(f));
        }
        see("number of the next flight", () -> x.flight(0, 0, 0));
    }

    private void sums() {
        LandingSlots x = recipe.get();
        for (int airline = -1; airline < 8; airline++) {
            int a = airline;
            see("delay " + a, () -> x.delay(a));
            see("owned " + a, () -> x.owned(a));
        }
        see("gaps", x::gaps);
        see("log", x::log);
    }

    private void entries() {
        int count = recipe.get().log();
        for (int first = 0; first < count; first += ENTRIES_A_DESK) {
            LandingSlots x = recipe.get();
            for (int i = first; i < Math.min(count, first + ENTRIES_A_DESK); i++) {
                seen.add("entry " + i + ": " + x.entry(i, 0) + " " + x.entry(i, 1) + " " + x.entry(i, 2) + " " + x.entry(i, 3));
            }
        }
    }

    /** No call tells a flight's earliest minute; it is the first one that later does not refuse as too small. */
    private void earliestMinutes() {
        for (int flight = 0; flight < 60; flight++) {
            LandingSlots x = recipe.get();
            int f = flight;
            int earliest = 0;
            String answer = answer(() -> x.later(f, 0) ? 1 : 0);
            while (answer.equals("throws IllegalArgumentException") && earliest < 300) {
                earliest++;
                int e = earliest;
                answer = answer(() -> x.later(f, e) ? 1 : 0);
            }
            seen.add("later " + f + " from " + earliest + ": " + answer);
            if (earliest == 300 && answer.startsWith("throws IllegalArgument")) {
                return;
            }
        }
    }

    private void offers() {
        LandingSlots x = recipe.get();
        for (int offer = 0; offer < 40; offer++) {
            int o = offer;
            see("drop " + o, () -> x.drop(o) ? 1 : 0);
        }
    }

    private void statesOfFlights() {
        LandingSlots x = recipe.get();
        LandingSlots y = recipe.get();
        for (int flight = 0; flight < 60; flight++) {
            int f = flight;
            see("cancel " + f, () -> x.cancel(f) ? 1 : 0);
            see("airborne " + f, () -> { y.airborne(f); return 0; });
        }
    }

    private void whatComesNext() {
        LandingSlots x = recipe.get();
        see("trade", x::trade);
        see("compress", x::compress);
        see("log then", x::log);
        see("delay then", () -> x.delay(-1));
        see("ration", x::ration);
        for (int flight = 0; flight < 60; flight++) {
            int f = flight;
            see("slotOf then " + f, () -> x.slotOf(f));
        }
    }

    private void see(String what, LongSupplier asked) {
        seen.add(what + ": " + answer(asked));
    }

    static String answer(LongSupplier asked) {
        try {
            return Long.toString(asked.getAsLong());
        } catch (RuntimeException e) {
            return "throws " + e.getClass().getSimpleName();
        }
    }
}
