/** A test for each sentence of the promises 11 to 28, at the bounds that it names. */
public final class PointEdgesTest {
    private PointEdgesTest() {
    }

    public static void main(String[] args) {
        thePoint();
        whatIsBeneath();
        Doc.isTested(11, 28);
        Check.end("PointEdgesTest");
    }

    private static void thePoint() {
        p11();
        p12();
        p13();
        p14();
        p15();
        p16();
        p17();
        p18();
        p19();
        p20();
        p21();
    }

    private static void whatIsBeneath() {
        p22();
        p23();
        p24();
        p25();
        p26();
        p27();
        p28();
    }

    // ---- 11 to 13. goTo, goUp, pointOf

    private static void p11() {
        Doc.says(11, "the member of it that the POINT has from now on");
        Doc.says(11, "Returns the one before");
        EbbTable x = Stores.full();
        Stores.goTo(x, 0, 0, 0, 0);
        for (int d = 0; d < 4; d++) {
            Check.due("p11 from the root", 0, x.goTo(d, 23));
            Check.due("p11 from the last", 23, x.goTo(d, 23));
            Check.due("p11 it is there", 23, x.pointOf(d));
        }
        Check.due("p11 back", 23, x.goTo(2, 0));
        Check.due("p11 the others stay", 23, x.pointOf(1));
        Doc.says(11, "Throws `IndexOutOfBoundsException`");
        Twins.index("p11 dimension", 2, Stores::furnished, (y, d) -> y.goTo(d, 0));
        Twins.index("p11 member", 6, Stores::furnished, (y, m) -> y.goTo(0, m));
        Twins.index("p11 member of the other", 4, Stores::furnished, (y, m) -> y.goTo(1, m));
        Twins.index("p11 member of 24", 24, Stores::full, (y, m) -> y.goTo(3, m));
    }

    private static void p12() {
        Doc.says(12, "Goes to the parent of the member of the POINT");
        Doc.says(12, "-1 if it has the root already");
        EbbTable x = Stores.grow(Stores.withLevels(3), 0, 0, 1, 2);
        x.goTo(0, 3);
        for (int due = 2; due >= 0; due--) {
            Check.due("p12 up", due, x.goUp(0));
            Check.due("p12 it is there", due, x.pointOf(0));
        }
        for (int again = 0; again < 2; again++) {
            Check.due("p12 at the root already", -1, x.goUp(0));
            Check.due("p12 it stays there", 0, x.pointOf(0));
        }
        Check.due("p12 a root alone", -1, Stores.withLevels(1).goUp(0));
        Doc.says(12, "Throws `IndexOutOfBoundsException`");
        Twins.index("p12 dimension", 2, Stores::furnished, EbbTable::goUp);
        Twins.index("p12 dimension of four", 4, Stores::full, EbbTable::goUp);
    }

    private static void p13() {
        Doc.says(13, "Returns the member of it that the POINT has");
        EbbTable x = Stores.furnished();
        Check.due("p13 of 0", 1, x.pointOf(0));
        Check.due("p13 of 1", 0, x.pointOf(1));
        Doc.says(13, "Throws `IndexOutOfBoundsException`");
        Twins.index("p13 dimension", 2, Stores::furnished, EbbTable::pointOf);
        Twins.index("p13 dimension of four", 4, Stores::full, EbbTable::pointOf);
    }

    // ---- 14. add

    private static void p14() {
        Doc.says(14, "Adds a fact at the POINT");
        Doc.says(14, "Returns its number");
        EbbTable x = Stores.withoutFacts();
        Check.due("p14 the first", 0, Stores.put(x, 5, 3, 1));
        Check.due("p14 the second", 1, x.add(6));
        Check.due("p14 both are there", 11, x.sum());
        x.goTo(1, 2);
        Check.due("p14 and not elsewhere", 0, x.count());
        Doc.says(14, "Throws `IllegalArgumentException` if value is not -10000 to 10000");
        for (int value : new int[] {-10000, -9999, 0, 9999, 10000}) {
            Check.due("p14 value " + value, value, single(value).sum());
        }
        for (int value : new int[] {-10001, 10001, Integer.MIN_VALUE, Integer.MAX_VALUE}) {
            Twins.refused("p14 value " + value, Twins.ARGUMENT, () -> single(1), y -> y.add(value));
            Twins.refused("p14 full, value " + value, Twins.ARGUMENT, Stores::full, y -> y.add(value));
            Twins.refused("p14 new, value " + value, Twins.ARGUMENT, EbbTable::new, y -> y.add(value));
        }
        whereNoFactIs();
    }

    private static EbbTable single(int value) {
        EbbTable x = Stores.wide(1);
        Stores.put(x, value, 1);
        return x;
    }

    private static void whereNoFactIs() {
        Doc.says(14, "if there is no dimension, the POINT has a member that is no leaf, or there are 80 facts");
        Twins.refused("p14 no dimension", Twins.STATE, EbbTable::new, x -> x.add(1));
        for (int d = 0; d < 4; d++) {
            for (int level = 0; level <= 3; level++) {
                int dimension = d;
                int member = level;
                String what = "p14 in " + d + " on the level " + level;
                if (level == 3) {
                    Twins.accepted(what, () -> fourChains(dimension, member), x -> x.add(1));
                } else {
                    Twins.refused(what, Twins.STATE, () -> fourChains(dimension, member), x -> x.add(1));
                }
            }
        }
        EbbTable x = Stores.full();
        Stores.goTo(x, 3, 3, 3, 3);
        Check.refused("p14 80 facts", Twins.STATE, x, () -> x.add(1));
        x.drop(40);
        Check.due("p14 79 facts", 79, x.add(1));
        Check.refused("p14 80 facts again", Twins.STATE, x, () -> x.add(1));
    }

    /** Four dimensions with a member on each of three levels; the POINT at leaves, but in one dimension. */
    private static EbbTable fourChains(int dimension, int member) {
        EbbTable x = Stores.withLevels(3, 3, 3, 3);
        for (int d = 0; d < 4; d++) {
            Stores.grow(x, d, 0, 1, 2);
        }
        Stores.goTo(x, 3, 3, 3, 3);
        x.goTo(dimension, member);
        return x;
    }

    // ---- 15, 16. drop, facts

    private static void p15() {
        Doc.says(15, "Drops a fact; those with greater numbers have one less from then on");
        Doc.says(15, "Returns its value");
        for (int dropped = 0; dropped < 5; dropped++) {
            EbbTable x = Stores.row(10, 20, 30, 40, 50);
            Check.due("p15 its value", 10 + 10 * dropped, x.drop(dropped));
            Check.due("p15 what is left", 140 - 10 * dropped, x.sum());
            Check.due("p15 none at its leaf", 0, x.sumOf(0, dropped));
            for (int fact = 0; fact < 4; fact++) {
                int from = fact < dropped ? fact : fact + 1;
                Check.due("p15 the fact " + fact + " behind " + dropped, 10 + 10 * from, x.drop(0));
                Check.due("p15 with its leaf", 0, x.sumOf(0, from));
            }
            Check.due("p15 none is left", 0, x.facts());
        }
        EbbTable full = Stores.full();
        Check.due("p15 the last of 80", 59, full.drop(79));
        Check.due("p15 the first of 79", -20, full.drop(0));
        Check.due("p15 the last of 78", 58, full.drop(77));
        Doc.says(15, "Throws `IndexOutOfBoundsException` if there is no such fact");
        Twins.index("p15 of none", 0, Stores::withoutFacts, EbbTable::drop);
        Twins.index("p15 of one", 1, () -> single(3), EbbTable::drop);
        Twins.index("p15 of five", 5, Stores::small, EbbTable::drop);
        Twins.index("p15 of 80", 80, Stores::full, EbbTable::drop);
    }

    private static void p16() {
        Doc.says(16, "Returns how many facts there are");
        Check.due("p16 none", 0, new EbbTable().facts());
        Check.due("p16 five", 5, Stores.small().facts());
        Check.due("p16 all", 80, Stores.full().facts());
        EbbTable x = single(1);
        x.leaveOut(0, 0, true);
        Check.due("p16 one that does not count", 1, x.facts());
        x.drop(0);
        Check.due("p16 no more", 0, x.facts());
    }

    // ---- 17 to 21. count, sum, least, greatest, mean

    private static void p17() {
        Doc.says(17, "Returns how many facts beneath the POINT COUNT");
        EbbTable x = Stores.full();
        Check.due("p17 some of 80", true, x.count() < 80);
        Stores.goTo(x, 0, 0, 0, 0);
        Check.due("p17 all of 80", 80, x.count());
        x.leaveOut(3, 0, true);
        Check.due("p17 none of 80", 0, x.count());
        Check.due("p17 none of none", 0, Stores.withoutFacts().count());
    }

    private static void p18() {
        Doc.says(18, "Returns the sum of their values");
        Check.due("p18 of none", 0, Stores.withoutFacts().sum());
        Check.due("p18 of one", -10000, single(-10000).sum());
        Check.due("p18 80 times the greatest", 800000, eighty(10000).sum());
        Check.due("p18 80 times the least", -800000, eighty(-10000).sum());
    }

    /** 80 facts of the same value at one leaf, the POINT at the root; another leaf has none. */
    private static EbbTable eighty(int value) {
        EbbTable x = Stores.wide(2);
        x.goTo(0, 1);
        for (int fact = 0; fact < 80; fact++) {
            x.add(value);
        }
        x.goTo(0, 0);
        return x;
    }

    private static void p19() {
        Doc.says(19, "Returns the least of their values; 0 without any");
        Check.due("p19 no facts", 0, Stores.withoutFacts().least());
        Check.due("p19 of one", 7, single(7).least());
        Check.due("p19 the greatest value", 10000, single(10000).least());
        Check.due("p19 the least value", -10000, single(-10000).least());
        Check.due("p19 of the least values", -10000, eighty(-10000).least());
        Check.due("p19 the first", 3, Stores.row(3, 4, 5).least());
        Check.due("p19 the last", -5, Stores.row(-3, -4, -5).least());
        withoutAny(Stores.row(3, 4), "least");
    }

    private static void p20() {
        Doc.says(20, "Returns the greatest of their values; 0 without any");
        Check.due("p20 no facts", 0, Stores.withoutFacts().greatest());
        Check.due("p20 of one", -7, single(-7).greatest());
        Check.due("p20 the greatest value", 10000, single(10000).greatest());
        Check.due("p20 the least value", -10000, single(-10000).greatest());
        Check.due("p20 the first", -3, Stores.row(-3, -4, -5).greatest());
        Check.due("p20 the last", 5, Stores.row(3, 4, 5).greatest());
        withoutAny(Stores.row(-3, -4), "greatest");
    }

    /** Where no fact is, and where none counts. */
    private static void withoutAny(EbbTable x, String name) {
        int leaf = x.addMember(0, 0);
        x.goTo(0, leaf);
        Check.due(name + " at another leaf", 0, name.equals("least") ? x.least() : x.greatest());
        x.goTo(0, 0);
        x.leaveOut(0, 1, true);
        x.leaveOut(0, 2, true);
        Check.due(name + " if none counts", 0, name.equals("least") ? x.least() : x.greatest());
    }

    private static void p21() {
        Doc.says(21, "Returns the mean of their values, not cut; 0 without any");
        Check.due("p21 no facts", 0.0, Stores.withoutFacts().mean());
        Check.due("p21 of one", -10000.0, single(-10000).mean());
        Check.due("p21 half of one", 0.5, Stores.row(0, 1).mean());
        Check.due("p21 half of -1", -0.5, Stores.row(0, -1).mean());
        Check.due("p21 a third", 1.0 / 3, Stores.row(0, 0, 1).mean());
        Check.due("p21 the sum is 0", 0.0, Stores.row(1, -1).mean());
        Check.due("p21 of 80", 10000.0, eighty(10000).mean());
        EbbTable x = Stores.row(3, 4);
        x.leaveOut(0, 2, true);
        Check.due("p21 of those that count", 3.0, x.mean());
        x.goTo(0, 2);
        Check.due("p21 none that counts", 0.0, x.mean());
    }

    // ---- 22 to 25. children, sumOf, ranked, running

    private static void p22() {
        Doc.says(22, "Returns how many children there are");
        Check.due("p22 a root alone", 0, Stores.withLevels(3).children(0));
        Check.due("p22 one", 1, Stores.wide(1).children(0));
        Check.due("p22 as many as can be", 23, Stores.wide(23).children(0));
        EbbTable x = Stores.wide(23);
        x.goTo(0, 23);
        Check.due("p22 of a leaf", 0, x.children(0));
        Doc.says(22, "Throws `IndexOutOfBoundsException`");
        Twins.index("p22 dimension", 2, Stores::furnished, EbbTable::children);
        Twins.index("p22 dimension of four", 4, Stores::full, EbbTable::children);
    }

    private static void p23() {
        Doc.says(23, "Returns what sum() would tell, if the POINT had it");
        EbbTable x = Stores.full();
        Stores.goTo(x, 2, 0, 3, 0);
        for (int child = 0; child < 21; child++) {
            int due = x.sumOf(0, child);
            x.goTo(0, 3 + child);
            Check.due("p23 child " + child, x.sum(), due);
            x.goTo(0, 2);
        }
        Check.due("p23 the greatest", 800000, eighty(10000).sumOf(0, 0));
        Check.due("p23 the least", -800000, eighty(-10000).sumOf(0, 0));
        Check.due("p23 of none", 0, eighty(10000).sumOf(0, 1));
        Doc.says(23, "Throws `IndexOutOfBoundsException`");
        Twins.index("p23 dimension", 2, Stores::furnished, (y, d) -> y.sumOf(d, 0));
        Twins.index("p23 child", 2, Stores::furnished, (y, c) -> y.sumOf(0, c));
        Twins.index("p23 child of 23", 23, () -> Stores.wide(23), (y, c) -> y.sumOf(0, c));
        Twins.index("p23 child of a leaf", 0, PointEdgesTest::atALeaf, (y, c) -> y.sumOf(0, c));
        Twins.index("p23 child of a root alone", 0, () -> Stores.withLevels(2), (y, c) -> y.sumOf(0, c));
    }

    private static EbbTable atALeaf() {
        EbbTable x = Stores.furnished();
        Stores.goTo(x, 3, 1);
        return x;
    }

    private static void p24() {
        Doc.says(24, "Returns the number of the child that has this rank by sumOf(), the greatest first");
        ranksAre(Stores.row(5), 0);
        ranksAre(Stores.row(1, 2, 3), 2, 1, 0);
        ranksAre(Stores.row(3, 2, 1), 0, 1, 2);
        ranksAre(Stores.row(-3, -1, -2), 1, 2, 0);
        ranksAre(Stores.row(0, 0, 0), 0, 1, 2);
        ranksAre(Stores.row(2, 5, 2, 5, -2), 1, 3, 0, 2, 4);
        ranksAre(Stores.row(10000, -10000, 0), 0, 2, 1);
        EbbTable x = Stores.row(1, 5, 3);
        x.leaveOut(0, 2, true);
        ranksAre(x, 2, 0, 1);
        EbbTable wide = Stores.wide(23);
        for (int rank = 0; rank < 23; rank++) {
            Check.due("p24 of 23 equal ones", rank, wide.ranked(0, rank));
        }
        Doc.says(24, "a rank, from 0 on");
        Doc.says(24, "if there is no such dimension, or not so many children, or rank is less than 0");
        Twins.index("p24 dimension", 2, Stores::furnished, (y, d) -> y.ranked(d, 0));
        Twins.index("p24 rank", 2, Stores::furnished, (y, r) -> y.ranked(0, r));
        Twins.index("p24 rank of 23", 23, () -> Stores.wide(23), (y, r) -> y.ranked(0, r));
        Twins.index("p24 rank at a leaf", 0, PointEdgesTest::atALeaf, (y, r) -> y.ranked(0, r));
        Twins.index("p24 rank at a root alone", 0, () -> Stores.withLevels(2), (y, r) -> y.ranked(0, r));
    }

    private static void ranksAre(EbbTable x, int... due) {
        for (int rank = 0; rank < due.length; rank++) {
            Check.due("p24 rank " + rank + " of " + due.length, due[rank], x.ranked(0, rank));
        }
    }

    private static void p25() {
        Doc.says(25, "Returns the sum of sumOf() of all children up to this one, with it");
        EbbTable x = Stores.row(5, -7, 10000, 3);
        int[] due = {5, -2, 9998, 10001};
        for (int child = 0; child < 4; child++) {
            Check.due("p25 up to " + child, due[child], x.running(0, child));
        }
        Check.due("p25 the greatest, and nothing", 800000, eighty(10000).running(0, 1));
        Check.due("p25 the last of 23", 0, Stores.wide(23).running(0, 22));
        Doc.says(25, "Throws `IndexOutOfBoundsException`");
        Twins.index("p25 dimension", 2, Stores::furnished, (y, d) -> y.running(d, 0));
        Twins.index("p25 child", 2, Stores::furnished, (y, c) -> y.running(0, c));
        Twins.index("p25 child of 23", 23, () -> Stores.wide(23), (y, c) -> y.running(0, c));
        Twins.index("p25 child of a leaf", 0, PointEdgesTest::atALeaf, (y, c) -> y.running(0, c));
    }

    // ---- 26, 27. share, fewest

    private static void p26() {
        Doc.says(26, "Returns 1000 times sumOf() / sum(); 0 if sum() is 0");
        Check.due("p26 all", 1000, Stores.row(7).share(0, 0));
        Check.due("p26 all, less than 0", 1000, Stores.row(-7).share(0, 0));
        Check.due("p26 none", 0, Stores.row(7, 0).share(0, 1));
        Check.due("p26 a thousandth", 1, Stores.row(1, 999).share(0, 0));
        Check.due("p26 less than a thousandth", 0, Stores.row(1, 1000).share(0, 0));
        Check.due("p26 no fact", 0, Stores.wide(1).share(0, 0));
        Check.due("p26 the sum is 0, its is not", 0, Stores.row(5, -5).share(0, 0));
        Check.due("p26 the sum is 0, its is less", 0, Stores.row(5, -5).share(0, 1));
        Check.due("p26 the sum is 1", 5000, Stores.row(5, -4).share(0, 0));
        Check.due("p26 the sum is -1", 4000, Stores.row(-4, 3).share(0, 0));
        EbbTable x = fortyAgainstForty();
        Check.due("p26 the greatest of a sum of 1", 400000000, x.share(0, 0));
        Check.due("p26 the least of a sum of 1", -399999000, x.share(0, 1));
        Check.due("p26 the greatest of itself", 1000, eighty(10000).share(0, 0));
        Check.due("p26 the least of itself", 1000, eighty(-10000).share(0, 0));
        Doc.says(26, "Throws `IndexOutOfBoundsException`");
        Twins.index("p26 dimension", 2, Stores::furnished, (y, d) -> y.share(d, 0));
        Twins.index("p26 child", 2, Stores::furnished, (y, c) -> y.share(0, c));
        Twins.index("p26 child of 23", 23, () -> Stores.wide(23), (y, c) -> y.share(0, c));
        Twins.index("p26 child of a leaf", 0, PointEdgesTest::atALeaf, (y, c) -> y.share(0, c));
    }

    /** 400000 beneath the first leaf, -399999 beneath the second. */
    private static EbbTable fortyAgainstForty() {
        EbbTable x = Stores.wide(2);
        for (int fact = 0; fact < 40; fact++) {
            Stores.put(x, 10000, 1);
            Stores.put(x, fact == 0 ? -9999 : -10000, 2);
        }
        x.goTo(0, 0);
        return x;
    }

    private static void p27() {
        Doc.says(27, "Returns how many children, by rank, it takes at least to have together part thousandths");
        fewestAre(Stores.row(500, 500), new int[][] {{1, 1}, {499, 1}, {500, 1}, {501, 2}, {1000, 2}});
        fewestAre(Stores.row(1, 999), new int[][] {{1, 1}, {999, 1}, {1000, 2}});
        fewestAre(Stores.row(1, 2000, 0), new int[][] {{999, 1}, {1000, 2}});
        fewestAre(Stores.row(3, 1, 2), new int[][] {{500, 1}, {501, 2}, {833, 2}, {834, 3}});
        fewestAre(Stores.row(10, -4), new int[][] {{1, 1}, {1000, 1}});
        fewestAre(Stores.row(7), new int[][] {{1, 1}, {1000, 1}});
        fewestAre(Stores.row(5, -5), new int[][] {{1, 0}, {1000, 0}});
        fewestAre(Stores.row(5, -6), new int[][] {{1, 0}, {1000, 0}});
        fewestAre(Stores.wide(2), new int[][] {{1, 0}, {1000, 0}});
        fewestAre(Stores.withLevels(1), new int[][] {{1, 0}, {1000, 0}});
        fewestAre(eighty(10000), new int[][] {{1, 1}, {1000, 1}});
        fewestAre(eighty(-10000), new int[][] {{1, 0}, {1000, 0}});
        fewestAre(fortyAgainstForty(), new int[][] {{1, 1}, {1000, 1}});
        noNumberIsEnough();
        Doc.says(27, "Throws `IndexOutOfBoundsException`");
        Twins.index("p27 dimension", 2, Stores::furnished, (y, d) -> y.fewest(d, 1));
        Doc.says(27, "Throws `IllegalArgumentException` if part is not 1 to 1000");
        for (int part : new int[] {0, 1001, -1, Integer.MIN_VALUE, Integer.MAX_VALUE}) {
            Twins.refused("p27 part " + part, Twins.ARGUMENT, Stores::furnished, y -> y.fewest(0, part));
            Twins.refused("p27 part " + part + " at a leaf", Twins.ARGUMENT, PointEdgesTest::atALeaf,
                    y -> y.fewest(0, part));
            Twins.refused("p27 nowhere, part " + part, Twins.INDEX, Stores::furnished, y -> y.fewest(2, part));
        }
        for (int part : new int[] {1, 2, 999, 1000}) {
            Twins.accepted("p27 part " + part, Stores::furnished, y -> y.fewest(0, part));
        }
    }

    private static void fewestAre(EbbTable x, int[][] due) {
        for (int[] each : due) {
            Check.due("p27 " + each[0] + " thousandths of " + x.sum(), each[1], x.fewest(0, each[0]));
        }
    }

    /** Children have together what their parent has: only where there are none, none can be enough. */
    private static void noNumberIsEnough() {
        for (int value : new int[] {1, 10000, 0, -1, -10000}) {
            EbbTable x = single(value);
            Check.due("p27 a leaf with " + value, value > 0 ? -1 : 0, x.fewest(0, 1));
            Check.due("p27 all of a leaf with " + value, value > 0 ? -1 : 0, x.fewest(0, 1000));
        }
    }

    // ---- 28. drill

    private static void p28() {
        Doc.says(28, "Goes to a leaf in a dimension");
        Doc.says(28, "Returns the member that the POINT has then");
        drillsTo(Stores.withLevels(3), 0, 0);
        drillsTo(Stores.row(1, 3, 2), 0, 2);
        drillsTo(Stores.row(3, 3, 2), 0, 1);
        drillsTo(Stores.row(-3, -1, -1), 0, 2);
        drillsTo(Stores.wide(3), 0, 1);
        drillsTo(Stores.row(1, 3, 2), 3, 3);
        for (int from = 0; from <= 3; from++) {
            drillsTo(Stores.grow(Stores.withLevels(3), 0, 0, 1, 2), from, 3);
            drillsTo(Stores.grow(Stores.withLevels(3), 0, 0, 1, 1), Math.min(from, 2), 2);
        }
        EbbTable x = Stores.grow(Stores.withLevels(2), 0, 0, 0, 2, 2);
        Stores.put(x, 4, 3);
        Stores.put(x, 5, 4);
        drillsTo(x, 0, 4);
        x.leaveOut(0, 4, true);
        drillsTo(x, 0, 3);
        x.leaveOut(0, 2, true);
        drillsTo(x, 0, 1);
        drillsTo(x, 2, 3);
        Doc.says(28, "Throws `IndexOutOfBoundsException`");
        Twins.index("p28 dimension", 2, Stores::furnished, EbbTable::drill);
        Twins.index("p28 dimension of four", 4, Stores::full, EbbTable::drill);
    }

    private static void drillsTo(EbbTable x, int from, int due) {
        x.goTo(0, from);
        Check.due("p28 from " + from, due, x.drill(0));
        Check.due("p28 the point is there", due, x.pointOf(0));
    }
}
