import java.util.function.Supplier;

/** What the tests have in common: they compare, print what is wrong, and end with 1 if something was. */
final class Check {
    private static int wrong = 0;
    private static int done = 0;

    private Check() {
    }

    static void due(String what, Object want, Object got) {
        done++;
        if (!want.equals(got)) {
            wrong++;
            System.out.println(what + ": answered " + got + ", due is " + want);
        }
    }

    static void holds(String what, boolean isSo) {
        due(what, true, isSo);
    }

    /** The call throws just this exception, and the store is afterwards what it was before. */
    static void refused(String what, Class<? extends RuntimeException> want, EbbTable x, Supplier<?> call) {
        String before = stateOf(x);
        String got = "nothing";
        try {
            call.get();
        } catch (RuntimeException e) {
            got = e.getClass().getName();
        }
        due(what + " throws", want.getName(), got);
        due(what + " changes", before, stateOf(x));
    }

    /** All that the face tells of a store; what can only be read by setting it is set back. */
    static String stateOf(EbbTable x) {
        StringBuilder text = new StringBuilder();
        text.append("digest ").append(x.digest());
        for (int d = 0; d < x.dimensions(); d++) {
            int level = x.setLevel(d, 0);
            x.setLevel(d, level);
            text.append("; dimension ").append(d).append(" on level ").append(level);
            text.append(" at ").append(x.pointOf(d)).append(" members");
            for (int m = 0; m < x.members(d); m++) {
                boolean isOut = x.leaveOut(d, m, true);
                x.leaveOut(d, m, isOut);
                text.append(' ').append(x.parentOf(d, m)).append(isOut ? "-" : "+");
            }
        }
        boolean isBare = x.setBare(false);
        text.append("; bare ").append(isBare).append(" axes ").append(axesOf(x));
        x.setBare(isBare);
        return text.append("; facts ").append(x.facts()).toString();
    }

    private static String axesOf(EbbTable x) {
        try {
            return x.rows() + " by " + x.columns();
        } catch (IllegalStateException e) {
            return "none";
        }
    }

    static void end(String name) {
        System.out.println(name + ": " + done + " checks, " + wrong + " wrong");
        if (done == 0 || wrong != 0) {
            System.exit(1);
        }
    }
}
