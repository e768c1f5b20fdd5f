/** Stores that the tests begin with, and short ways to furnish one. Each call makes a store of its own. */
final class Stores {
    private Stores() {
    }

    static EbbTable withLevels(int... levels) {
        EbbTable x = new EbbTable();
        for (int each : levels) {
            x.addDimension(each);
        }
        return x;
    }

    /** Adds a member beneath each of these parents, one behind the other. */
    static EbbTable grow(EbbTable x, int dimension, int... parents) {
        for (int parent : parents) {
            x.addMember(dimension, parent);
        }
        return x;
    }

    static void goTo(EbbTable x, int... members) {
        for (int d = 0; d < members.length; d++) {
            x.goTo(d, members[d]);
        }
    }

    static int put(EbbTable x, int value, int... leaves) {
        goTo(x, leaves);
        return x.add(value);
    }

    static void setLevels(EbbTable x, int... levels) {
        for (int d = 0; d < levels.length; d++) {
            x.setLevel(d, levels[d]);
        }
    }

    /**
     * Dimension 0 has the levels 1 (members 1, 2) and 2 (3 and 5 beneath 1, 4 beneath 2), dimension 1 the
     * level 1 (members 1, 2, 3).
     */
    static EbbTable withoutFacts() {
        EbbTable x = withLevels(2, 1);
        grow(x, 0, 0, 0, 1, 2, 1);
        return grow(x, 1, 0, 0, 0);
    }

    /** The same with the facts 10 at (3, 1), -4 at (3, 2), 6 at (4, 2), 9 and 1 at (5, 3); at the roots. */
    static EbbTable small() {
        EbbTable x = withoutFacts();
        put(x, 10, 3, 1);
        put(x, -4, 3, 2);
        put(x, 6, 4, 2);
        put(x, 9, 5, 3);
        put(x, 1, 5, 3);
        goTo(x, 0, 0);
        return x;
    }

    /** The small store with something of all that a store can have, so that a change of any of it is seen. */
    static EbbTable furnished() {
        EbbTable x = small();
        setLevels(x, 2, 1);
        x.keep();
        setLevels(x, 1, 0);
        x.keep();
        x.drop(4);
        x.refresh(1);
        setLevels(x, 1, 1);
        x.setAxes(0, 2, 1, 1);
        x.setBare(true);
        x.leaveOut(1, 3, true);
        x.leaveOut(0, 2, true);
        goTo(x, 1, 0);
        return x;
    }

    /** Four dimensions of 24 members (1, 2 beneath it, leaves 3 to 23 beneath that), 80 facts, 6 views, axes. */
    static EbbTable full() {
        EbbTable x = withLevels(3, 3, 3, 3);
        for (int d = 0; d < 4; d++) {
            grow(x, d, 0, 1);
            for (int leaf = 3; leaf < 24; leaf++) {
                x.addMember(d, 2);
            }
        }
        goTo(x, 3, 3, 3, 3);
        for (int fact = 0; fact < 80; fact++) {
            if (fact % 2 == 0) {
                x.goTo(fact / 2 % 4, 3 + fact / 2 % 21);
            }
            x.add(fact - 20);
        }
        setLevels(x, 3, 3, 3, 3);
        for (int view = 0; view < 6; view++) {
            x.keep();
        }
        x.setAxes(0, 3, 1, 3);
        return x;
    }

    /** The full store with members left out, bare lines out, the POINT not at leaves, and LEVELS of no view. */
    static EbbTable crammed() {
        EbbTable x = full();
        for (int d = 0; d < 4; d++) {
            x.leaveOut(d, 4 + d, true);
        }
        x.setBare(true);
        goTo(x, 2, 0, 1, 0);
        setLevels(x, 1, 2, 0, 3);
        return x;
    }

    /** One dimension of one level with as many leaves. */
    static EbbTable wide(int leaves) {
        EbbTable x = withLevels(1);
        for (int leaf = 0; leaf < leaves; leaf++) {
            x.addMember(0, 0);
        }
        return x;
    }

    /** One dimension of one level; for each value a leaf with a fact of it. At the root. */
    static EbbTable row(int... values) {
        EbbTable x = wide(values.length);
        for (int leaf = 0; leaf < values.length; leaf++) {
            put(x, values[leaf], leaf + 1);
        }
        goTo(x, 0);
        return x;
    }
}
