import java.util.function.Consumer;
import java.util.function.ObjIntConsumer;
import java.util.function.Supplier;

/**
 * Refused calls and questions, each made on one of two stores that were made alike: they must be alike
 * afterwards. Because both are thrown away, they can be read to the ground: what is beneath all facts and views
 * is seen too.
 */
final class Twins {
    static final Class<IndexOutOfBoundsException> INDEX = IndexOutOfBoundsException.class;
    static final Class<IllegalArgumentException> ARGUMENT = IllegalArgumentException.class;
    static final Class<IllegalStateException> STATE = IllegalStateException.class;

    private Twins() {
    }

    static void refused(String what, Class<?> want, Supplier<EbbTable> made, Consumer<EbbTable> call) {
        changesNothing(what, want.getName(), made, call);
    }

    /** The call answers, and leaves the store as it was. */
    static void onlyAsks(String what, Supplier<EbbTable> made, Consumer<EbbTable> call) {
        changesNothing(what, "nothing", made, call);
    }

    private static void changesNothing(String what, String throwing, Supplier<EbbTable> made,
            Consumer<EbbTable> call) {
        EbbTable tried = made.get();
        EbbTable untouched = made.get();
        Check.due(what + " throws", throwing, thrownBy(tried, call));
        Check.due(what + " changes", read(untouched), read(tried));
    }

    static void accepted(String what, Supplier<EbbTable> made, Consumer<EbbTable> call) {
        Check.due(what + " throws", "nothing", thrownBy(made.get(), call));
    }

    /** The numbers from 0 to size - 1 are there, those just beside and far off are not. */
    static void index(String what, int size, Supplier<EbbTable> made, ObjIntConsumer<EbbTable> call) {
        for (int there = 0; there < size; there++) {
            int number = there;
            accepted(what + " " + number, made, x -> call.accept(x, number));
        }
        for (int none : new int[] {-1, size, size + 1, Integer.MIN_VALUE, Integer.MAX_VALUE}) {
            refused(what + " " + none, INDEX, made, x -> call.accept(x, none));
        }
    }

    private static String thrownBy(EbbTable x, Consumer<EbbTable> call) {
        try {
            call.accept(x);
            return "nothing";
        } catch (RuntimeException e) {
            return e.getClass().getName();
        }
    }

    /** All that can be found out about a store, in some 220 calls at most; it is spent afterwards. */
    private static String read(EbbTable x) {
        StringBuilder text = new StringBuilder();
        boolean isBare = x.setBare(false);
        x.setBare(isBare);
        text.append("bare ").append(isBare).append("; digest ").append(x.digest());
        x.setBare(false);
        text.append("; with bare lines ").append(x.digest()).append("; left out");
        int dimensions = x.dimensions();
        for (int d = 0; d < dimensions; d++) {
            for (int m = x.members(d) - 1; m >= 0; m--) {
                text.append(x.leaveOut(d, m, false) ? " " + d + "." + m : "");
            }
        }
        text.append("; all of it ").append(x.digest());
        for (int d = 0; d < dimensions; d++) {
            x.goTo(d, 0);
        }
        text.append("; from the roots ").append(x.digest()).append("; views");
        for (int view = x.views() - 1; view >= 0; view--) {
            text.append(' ').append(x.refresh(view));
        }
        return text.append("; facts").append(facts(x)).toString();
    }

    private static String facts(EbbTable x) {
        StringBuilder text = new StringBuilder();
        for (int left = x.facts(); left > 0; left--) {
            text.append(' ').append(x.drop(0));
            text.append(left % 4 == 0 ? " " + x.digest() : "");
        }
        return text.toString();
    }
}
