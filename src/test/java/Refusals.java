import java.util.List;
import java.util.NoSuchElementException;
import java.util.function.Consumer;
import java.util.function.Supplier;

/** A desk and the calls that it must refuse: each with the exception that is due, and changing nothing. */
final class Refusals {
    private final Checks check;
    private final String desk;
    private final Supplier<LandingSlots> recipe;
    private final List<String> before;

    Refusals(Checks check, String desk, Supplier<LandingSlots> recipe) {
        this.check = check;
        this.desk = desk;
        this.recipe = recipe;
        before = Looks.of(recipe);
    }

    /** The least int, the numbers just beyond the bounds on both sides, and the greatest int. */
    static int[] beyond(int least, int most) {
        return new int[] {Integer.MIN_VALUE, least - 1, most + 1, Integer.MAX_VALUE};
    }

    void argument(String call, Consumer<LandingSlots> made) {
        refused(call, IllegalArgumentException.class, made);
    }

    void state(String call, Consumer<LandingSlots> made) {
        refused(call, IllegalStateException.class, made);
    }

    void element(String call, Consumer<LandingSlots> made) {
        refused(call, NoSuchElementException.class, made);
    }

    void index(String call, Consumer<LandingSlots> made) {
        refused(call, IndexOutOfBoundsException.class, made);
    }

    private void refused(String call, Class<? extends RuntimeException> due, Consumer<LandingSlots> made) {
        String what = desk + ": " + call;
        check.refused(what, due, () -> made.accept(recipe.get()));
        changesNothing(what, made);
    }

    private void changesNothing(String what, Consumer<LandingSlots> made) {
        List<String> after = Looks.of(() -> afterCall(made));
        for (int i = 0; i < Math.max(before.size(), after.size()); i++) {
            String was = i < before.size() ? before.get(i) : "nothing";
            String is = i < after.size() ? after.get(i) : "nothing";
            if (!was.equals(is)) {
                System.out.println(what + " changed " + was + " to " + is);
            }
        }
        check.quiet(before.equals(after));
    }

    private LandingSlots afterCall(Consumer<LandingSlots> made) {
        LandingSlots x = recipe.get();
        try {
            made.accept(x);
        } catch (RuntimeException e) {
            // Which one it is has been looked at before.
        }
        return x;
    }

    /** For a call that is not refused and must yet change nothing. */
    void onlyLooks(String call, Consumer<LandingSlots> made) {
        changesNothing(desk + ": " + call, made);
    }
}
