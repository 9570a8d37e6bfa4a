/** Counts and prints what is not as due; every test of the project ends with {@link #finish}. */
final class Checks {
    private int made = 0;
    private int wrong = 0;

    void same(String what, long got, long due) {
        made++;
        if (got != due) {
            wrong++;
            System.out.println(what + " answered " + got + ", due is " + due);
        }
    }

    /** For a caller that has printed what was wrong. */
    void quiet(boolean right) {
        made++;
        wrong += right ? 0 : 1;
    }

    void yes(String what, boolean got) {
        same(what, got ? 1 : 0, 1);
    }

    void no(String what, boolean got) {
        same(what, got ? 1 : 0, 0);
    }

    void refused(String what, Class<? extends RuntimeException> due, Runnable call) {
        made++;
        String got = "nothing";
        try {
            call.run();
        } catch (RuntimeException e) {
            got = e.getClass().getName();
        }
        if (!got.equals(due.getName())) {
            wrong++;
            System.out.println(what + " threw " + got + ", due is " + due.getName());
        }
    }

    void badArgument(String what, Runnable call) {
        refused(what, IllegalArgumentException.class, call);
    }

    void badState(String what, Runnable call) {
        refused(what, IllegalStateException.class, call);
    }

    void noElement(String what, Runnable call) {
        refused(what, java.util.NoSuchElementException.class, call);
    }

    void entry(String what, LandingSlots x, int i, int kind, int flight, int from, int to) {
        same(what + ": kind of entry " + i, x.entry(i, 0), kind);
        same(what + ": flight of entry " + i, x.entry(i, 1), flight);
        same(what + ": minute from of entry " + i, x.entry(i, 2), from);
        same(what + ": minute to of entry " + i, x.entry(i, 3), to);
    }

    /** A slot's owner and the flight in it, in one check. */
    void slot(String what, LandingSlots x, int minute, int owner, int flight) {
        same(what + ": owner of " + minute, x.ownerOf(minute), owner);
        same(what + ": flight in " + minute, x.flightIn(minute), flight);
        if (flight != LandingSlots.NONE) {
            same(what + ": slot of flight " + flight, x.slotOf(flight), minute);
        }
    }

    void finish() {
        System.out.println(made + " checks, " + wrong + " wrong");
        if (wrong > 0) {
            System.exit(1);
        }
    }
}
