import java.util.function.Supplier;

/** What the tests have in common: they compare, print what is wrong, and end with 1 if something was. */
final class Check {
    private static int wrong = 0;
    private static int done = 0;

    private Check() {
    }

    static void due(String what, Object want, Object got) {
        done++;
        if (!want.equals(got)) {
            wrong++;
            System.out.println(what + ": answered " + got + ", due is " + want);
        }
    }

    static void holds(String what, boolean isSo) {
        due(what, true, isSo);
    }

    /** The call throws just this exception, and the store is afterwards what it was before. */
    static void refused(String what, Class<? extends RuntimeException> want, EbbTable x, Supplier<?> call) {
        String before = stateOf(x);
        String got = "nothing";
        try {
            call.get();
        } catch (RuntimeException e) {
            got = e.getClass().getName();
        }
        due(what + " throws", want.getName(), got);
        due(what + " changes", before, stateOf(x));
    }

    /** What few calls tell of a store that goes on being used (it has 512); Twins read to the ground. */
    private static String stateOf(EbbTable x) {
        boolean isBare = x.setBare(false);
        String text = "digest " + x.digest() + " bare " + isBare;
        x.setBare(isBare);
        return text;
    }

    static void end(String name) {
        System.out.println(name + ": " + done + " checks, " + wrong + " wrong");
        if (done == 0 || wrong != 0) {
            System.exit(1);
        }
    }
}
