import java.util.function.Consumer;

/** A test for each sentence of the promises 1 to 10, at the bounds that it names. */
public final class DimensionEdgesTest {
    private DimensionEdgesTest() {
    }

    public static void main(String[] args) {
        p01();
        p02();
        p03();
        p04();
        p05();
        p06();
        p07();
        p08();
        p09();
        p10();
        Doc.isTested(1, 10);
        Check.end("DimensionEdgesTest");
    }

    // ---- 1. a new object

    private static void p01() {
        Doc.says(1, "Creates a store without dimensions, facts, axes and views");
        EbbTable x = new EbbTable();
        int[] numbers = {x.dimensions(), x.facts(), x.count(), x.sum(), x.least(), x.greatest(), x.cellCount(),
            x.views(), x.cost(), x.gain(), x.advise(), 1 + x.answeredBy()};
        for (int i = 0; i < numbers.length; i++) {
            Check.due("p01 empty: " + i, 0, numbers[i]);
        }
        Check.due("p01 no mean", 0.0, x.mean());
        Check.due("p01 bare lines are told", false, x.setBare(false));
        Check.due("p01 a first view", 0, x.keep());
        Check.due("p01 a first dimension", 0, x.addDimension(1));
        whatANewStoreRefuses();
    }

    private static void whatANewStoreRefuses() {
        none("p01 addMember", x -> x.addMember(0, 0));
        none("p01 move", x -> x.move(0, 0, 0));
        none("p01 members", x -> x.members(0));
        none("p01 parentOf", x -> x.parentOf(0, 0));
        none("p01 levelOf", x -> x.levelOf(0, 0));
        none("p01 memberAt", x -> x.memberAt(0, 0, 0));
        none("p01 leaveOut", x -> x.leaveOut(0, 0, true));
        none("p01 goTo", x -> x.goTo(0, 0));
        none("p01 goUp", x -> x.goUp(0));
        none("p01 pointOf", x -> x.pointOf(0));
        none("p01 drop", x -> x.drop(0));
        none("p01 children", x -> x.children(0));
        none("p01 sumOf", x -> x.sumOf(0, 0));
        none("p01 ranked", x -> x.ranked(0, 0));
        none("p01 running", x -> x.running(0, 0));
        none("p01 share", x -> x.share(0, 0));
        none("p01 fewest", x -> x.fewest(0, 1));
        none("p01 drill", x -> x.drill(0));
        none("p01 setAxes", x -> x.setAxes(0, 0, 1, 0));
        none("p01 setLevel", x -> x.setLevel(0, 0));
        none("p01 dropView", x -> x.dropView(0));
        none("p01 refresh", x -> x.refresh(0));
        none("p01 rowsOf", x -> x.rowsOf(0));
        none("p01 isStale", x -> x.isStale(0));
        Twins.refused("p01 add", Twins.STATE, EbbTable::new, x -> x.add(0));
        Twins.refused("p01 rows", Twins.STATE, EbbTable::new, EbbTable::rows);
        Twins.refused("p01 columns", Twins.STATE, EbbTable::new, EbbTable::columns);
        Twins.refused("p01 rowMember", Twins.STATE, EbbTable::new, x -> x.rowMember(0));
        Twins.refused("p01 columnMember", Twins.STATE, EbbTable::new, x -> x.columnMember(0));
        Twins.refused("p01 cell", Twins.STATE, EbbTable::new, x -> x.cell(0, 0));
        Twins.refused("p01 peak", Twins.STATE, EbbTable::new, x -> x.peak(0));
    }

    private static void none(String what, Consumer<EbbTable> call) {
        Twins.refused(what, Twins.INDEX, EbbTable::new, call);
    }

    // ---- 2. addDimension

    private static void p02() {
        Doc.says(2, "Adds a dimension with its root");
        Doc.says(2, "Returns its number");
        EbbTable x = new EbbTable();
        for (int d = 0; d < 4; d++) {
            Check.due("p02 its number", d, x.addDimension(3 - d % 3));
            Check.due("p02 its root", 1, x.members(d));
            Check.due("p02 without a parent", -1, x.parentOf(d, 0));
            Check.due("p02 on the level 0", 0, x.levelOf(d, 0));
            Check.refused("p02 and no other member", Twins.INDEX, x, () -> x.levelOf(d(x), 1));
        }
        oneToThreeLevels();
        thereAreFour();
        whatIsGone(0);
        whatIsGone(6);
        setBareStays();
    }

    private static int d(EbbTable x) {
        return x.dimensions() - 1;
    }

    private static void oneToThreeLevels() {
        Doc.says(2, "Throws `IllegalArgumentException` if levels is not 1 to 3");
        for (int levels : new int[] {0, 4, -1, 5, Integer.MIN_VALUE, Integer.MAX_VALUE}) {
            Twins.refused("p02 levels " + levels, Twins.ARGUMENT, EbbTable::new, x -> x.addDimension(levels));
            Twins.refused("p02 later, levels " + levels, Twins.ARGUMENT, Stores::furnished,
                    x -> x.addDimension(levels));
            Twins.refused("p02 a fifth, levels " + levels, Twins.ARGUMENT, Stores::full,
                    x -> x.addDimension(levels));
        }
        for (int levels = 1; levels <= 3; levels++) {
            EbbTable x = Stores.withLevels(levels);
            for (int level = 0; level < levels; level++) {
                Check.due("p02 a member on each level", level + 1, x.addMember(0, level));
            }
            int leaf = levels;
            Check.refused("p02 and none deeper", Twins.STATE, x, () -> x.addMember(0, leaf));
        }
    }

    private static void thereAreFour() {
        Doc.says(2, "Throws `IllegalStateException` if there are 4");
        Twins.accepted("p02 a fourth", () -> Stores.withLevels(1, 2, 3), x -> x.addDimension(1));
        for (int levels = 1; levels <= 3; levels++) {
            int each = levels;
            Twins.refused("p02 a fifth", Twins.STATE, () -> Stores.withLevels(1, 2, 3, 1), x -> x.addDimension(each));
            Twins.refused("p02 a fifth to a full store", Twins.STATE, Stores::full, x -> x.addDimension(each));
        }
    }

    private static void whatIsGone(int views) {
        Doc.says(2, "All facts, views and axes are gone then, and nothing is left out; setBare() stays");
        EbbTable x = Stores.withLevels(1, 1);
        Stores.grow(x, 0, 0);
        Stores.grow(x, 1, 0);
        Stores.goTo(x, 1, 1);
        for (int fact = 0; fact < 80; fact++) {
            x.add(9);
        }
        for (int view = 0; view < views; view++) {
            x.keep();
        }
        x.setAxes(0, 1, 1, 1);
        leaveAllOut(x, true, false);
        x.addDimension(1);
        leaveAllOut(x, false, false);
        Check.refused("p02 no facts", Twins.INDEX, x, () -> x.drop(0));
        Check.due("p02 not one", 0, x.facts());
        Check.due("p02 no cost", 0, x.cost());
        Check.refused("p02 no views", Twins.INDEX, x, () -> x.rowsOf(0));
        Check.due("p02 not one view", 0, x.views());
        Check.refused("p02 no axes", Twins.STATE, x, x::rows);
        Check.refused("p02 no axes for columns", Twins.STATE, x, x::columns);
        x.addMember(2, 0);
        x.goTo(2, 1);
        for (int fact = 0; fact < 80; fact++) {
            Check.due("p02 room for 80 facts", fact, x.add(1));
        }
        Check.due("p02 that count", 80, x.sum());
        for (int view = 0; view < 6; view++) {
            Check.due("p02 room for 6 views", view, x.keep());
        }
    }

    /** Leaves each member out, or puts it back, and looks whether it was as it is due. */
    private static void leaveAllOut(EbbTable x, boolean isOut, boolean due) {
        for (int d = 0; d < x.dimensions(); d++) {
            for (int m = 0; m < x.members(d); m++) {
                Check.due("p02 left out: " + d + "." + m, due, x.leaveOut(d, m, isOut));
            }
        }
    }

    private static void setBareStays() {
        EbbTable x = new EbbTable();
        x.setBare(true);
        for (int d = 0; d < 4; d++) {
            x.addDimension(1);
            Check.due("p02 bare lines stay out", true, x.setBare(true));
        }
        x.setBare(false);
        EbbTable y = new EbbTable();
        for (int d = 0; d < 4; d++) {
            y.addDimension(1);
            Check.due("p02 bare lines stay", false, y.setBare(false));
        }
    }

    // ---- 3. addMember

    private static void p03() {
        Doc.says(3, "Adds a member");
        Doc.says(3, "Returns its number");
        EbbTable x = Stores.withLevels(2, 3);
        Check.due("p03 the first is 1", 1, x.addMember(1, 0));
        Check.due("p03 of each dimension", 1, x.addMember(0, 0));
        Check.due("p03 the next is 2", 2, x.addMember(1, 1));
        Check.due("p03 three are there", 3, x.members(1));
        Doc.says(3, "Throws `IndexOutOfBoundsException` if there is no such dimension, or member of it");
        Twins.index("p03 dimension", 2, Stores::furnished, (y, d) -> y.addMember(d, 0));
        Twins.index("p03 parent", 3, () -> Stores.grow(Stores.withLevels(2), 0, 0, 0), (y, m) -> y.addMember(0, m));
        Twins.refused("p03 no parent in a full one", Twins.INDEX, Stores::full, y -> y.addMember(0, 24));
        Doc.says(3, "Throws `IllegalStateException` if parent is a leaf, or the dimension has 24 members");
        for (int leaf = 3; leaf <= 5; leaf++) {
            int parent = leaf;
            Twins.refused("p03 beneath the leaf " + leaf, Twins.STATE, Stores::furnished, y -> y.addMember(0, parent));
        }
        Twins.accepted("p03 the 24th", () -> Stores.wide(22), y -> y.addMember(0, 0));
        Twins.refused("p03 the 25th", Twins.STATE, () -> Stores.wide(23), y -> y.addMember(0, 0));
        for (int parent = 0; parent < 24; parent++) {
            int each = parent;
            Twins.refused("p03 full, beneath " + parent, Twins.STATE, Stores::full, y -> y.addMember(2, each));
        }
    }

    // ---- 4. move

    private static void p04() {
        movesWithAllBeneath();
        Doc.says(4, "- `parent`: its parent from now on");
        Doc.says(4, "Returns the one before");
        EbbTable x = Stores.small();
        Check.due("p04 the one before", 1, x.move(0, 5, 2));
        Check.due("p04 from now on", 2, x.parentOf(0, 5));
        Check.due("p04 the same", 2, x.move(0, 5, 2));
        Check.due("p04 still", 2, x.parentOf(0, 5));
        Check.due("p04 the root, the only one on its level", 0, x.move(1, 3, 0));
        Doc.says(4, "Throws `IndexOutOfBoundsException` if there is no such dimension, or member of it");
        Twins.index("p04 dimension", 2, Stores::furnished, (y, d) -> y.move(d, 1, 0));
        for (int none : new int[] {-1, 6, 24, Integer.MIN_VALUE, Integer.MAX_VALUE}) {
            Twins.refused("p04 member " + none, Twins.INDEX, Stores::furnished, y -> y.move(0, none, 0));
            Twins.refused("p04 parent " + none, Twins.INDEX, Stores::furnished, y -> y.move(0, 5, none));
            Twins.refused("p04 the root to " + none, Twins.INDEX, Stores::furnished, y -> y.move(0, 0, none));
        }
        eachMemberToEachParent();
    }

    private static void eachMemberToEachParent() {
        Doc.says(4, "if member is the root, or parent is on another level than its parent");
        int[] parents = {0, 0, 1, 2, 1, 3, 4};
        int[] levels = {0, 1, 1, 2, 2, 2, 3, 3};
        for (int m = 0; m < levels.length; m++) {
            for (int p = 0; p < levels.length; p++) {
                int member = m;
                int parent = p;
                String what = "p04 " + m + " to " + p;
                if (m > 0 && levels[p] == levels[m] - 1) {
                    Twins.accepted(what, () -> Stores.grow(Stores.withLevels(3), 0, parents),
                            x -> x.move(0, member, parent));
                } else {
                    Twins.refused(what, Twins.ARGUMENT, () -> Stores.grow(Stores.withLevels(3), 0, parents),
                            x -> x.move(0, member, parent));
                }
            }
        }
    }

    private static void movesWithAllBeneath() {
        Doc.says(4, "Gives a member, with all that is beneath it, another parent");
        EbbTable x = Stores.grow(Stores.withLevels(3), 0, 0, 0, 1, 3, 3, 1);
        Stores.put(x, 5, 4);
        Stores.put(x, 6, 5);
        x.goTo(0, 2);
        x.leaveOut(0, 5, true);
        Check.due("p04 nothing beneath 2", 0, x.count());
        Check.due("p04 3 goes there", 1, x.move(0, 3, 2));
        Check.due("p04 with its leaves", 5, x.sum());
        Check.due("p04 that is left out stays so", true, x.leaveOut(0, 5, false));
        Check.due("p04 with both", 11, x.sum());
        Check.due("p04 their parent stays", 3, x.parentOf(0, 5));
        Check.due("p04 their level stays", 3, x.levelOf(0, 5));
        x.goTo(0, 1);
        Check.due("p04 nothing is left there", 0, x.count());
        Check.due("p04 but its other child", 1, x.children(0));
        x.goTo(0, 4);
        x.move(0, 3, 1);
        Check.due("p04 the point comes along", 3, x.goUp(0));
        Check.due("p04 to where it was", 1, x.goUp(0));
    }

    // ---- 5 to 8. dimensions, members, parentOf, levelOf

    private static void p05() {
        Doc.says(5, "Returns how many dimensions there are");
        Check.due("p05 none", 0, new EbbTable().dimensions());
        Check.due("p05 one", 1, Stores.withLevels(3).dimensions());
        Check.due("p05 three", 3, Stores.withLevels(3, 1, 1).dimensions());
        Check.due("p05 four", 4, Stores.full().dimensions());
    }

    private static void p06() {
        Doc.says(6, "Returns how many members it has");
        Check.due("p06 the root", 1, Stores.withLevels(1).members(0));
        Check.due("p06 23", 23, Stores.wide(22).members(0));
        Check.due("p06 24", 24, Stores.wide(23).members(0));
        Doc.says(6, "Throws `IndexOutOfBoundsException`");
        Twins.index("p06 dimension", 1, () -> Stores.withLevels(1), EbbTable::members);
        Twins.index("p06 dimension", 2, Stores::furnished, EbbTable::members);
        Twins.index("p06 dimension of four", 4, Stores::full, EbbTable::members);
    }

    private static void p07() {
        Doc.says(7, "Returns its parent; -1 of the root");
        EbbTable x = Stores.full();
        for (int d = 0; d < 4; d++) {
            Check.due("p07 of the root", -1, x.parentOf(d, 0));
            Check.due("p07 of the first beneath it", 0, x.parentOf(d, 1));
            Check.due("p07 of the last", 2, x.parentOf(d, 23));
        }
        Doc.says(7, "Throws `IndexOutOfBoundsException`");
        Twins.index("p07 dimension", 2, Stores::furnished, (y, d) -> y.parentOf(d, 0));
        Twins.index("p07 member", 4, Stores::furnished, (y, m) -> y.parentOf(1, m));
        Twins.index("p07 member of 24", 24, Stores::full, (y, m) -> y.parentOf(3, m));
    }

    private static void p08() {
        Doc.says(8, "Returns its level");
        EbbTable x = Stores.full();
        for (int d = 0; d < 4; d++) {
            Check.due("p08 of the root", 0, x.levelOf(d, 0));
            Check.due("p08 of the last", 3, x.levelOf(d, 23));
        }
        Doc.says(8, "Throws `IndexOutOfBoundsException`");
        Twins.index("p08 dimension", 2, Stores::furnished, (y, d) -> y.levelOf(d, 0));
        Twins.index("p08 member", 4, Stores::furnished, (y, m) -> y.levelOf(1, m));
        Twins.index("p08 member of 24", 24, Stores::full, (y, m) -> y.levelOf(3, m));
    }

    // ---- 9. memberAt

    private static void p09() {
        Doc.says(9, "Returns the member there");
        Doc.says(9, "a place among the members of this level in their order, from 0 on");
        EbbTable x = Stores.furnished();
        Check.due("p09 the first leaf", 3, x.memberAt(0, 2, 0));
        Check.due("p09 the last leaf", 4, x.memberAt(0, 2, 2));
        Check.due("p09 the root", 0, x.memberAt(0, 0, 0));
        Check.due("p09 the last of 21", 23, Stores.full().memberAt(3, 3, 20));
        Doc.says(9, "Throws `IndexOutOfBoundsException`");
        Twins.index("p09 dimension", 2, Stores::furnished, (y, d) -> y.memberAt(d, 0, 0));
        Twins.index("p09 level of two", 3, Stores::furnished, (y, l) -> y.memberAt(0, l, 0));
        Twins.index("p09 level of one", 2, Stores::furnished, (y, l) -> y.memberAt(1, l, 0));
        Twins.index("p09 level of three", 4, Stores::full, (y, l) -> y.memberAt(0, l, 0));
        Twins.index("p09 place of the root", 1, Stores::furnished, (y, p) -> y.memberAt(0, 0, p));
        Twins.index("p09 place on the level 1", 2, Stores::furnished, (y, p) -> y.memberAt(0, 1, p));
        Twins.index("p09 place on the level 2", 3, Stores::furnished, (y, p) -> y.memberAt(0, 2, p));
        Twins.index("p09 place of 23", 23, () -> Stores.wide(23), (y, p) -> y.memberAt(0, 1, p));
        for (int level = 1; level <= 3; level++) {
            int empty = level;
            Twins.index("p09 place on an empty level " + level, 0, () -> Stores.withLevels(3),
                    (y, p) -> y.memberAt(0, empty, p));
        }
    }

    // ---- 10. leaveOut

    private static void p10() {
        Doc.says(10, "Leaves a member out, or not any more");
        Doc.says(10, "- `isOut`: whether it is left out from now on");
        Doc.says(10, "Returns whether it was left out by itself");
        EbbTable x = Stores.small();
        boolean[] turns = {false, true, true, false, false, true};
        boolean before = false;
        for (boolean isOut : turns) {
            Check.due("p10 as it was", before, x.leaveOut(0, 1, isOut));
            Check.due("p10 what counts then", isOut ? 1 : 5, x.count());
            before = isOut;
        }
        Check.due("p10 one beneath is not out by itself", false, x.leaveOut(0, 3, false));
        Check.due("p10 nor is one above", false, x.leaveOut(0, 0, false));
        Check.due("p10 nor the same number in another dimension", false, x.leaveOut(1, 1, false));
        Doc.says(10, "(One beneath it that is left out by itself stays so.)");
        x.leaveOut(0, 3, true);
        x.leaveOut(0, 0, true);
        x.leaveOut(0, 0, false);
        x.leaveOut(0, 1, false);
        Check.due("p10 it stays so", 16, x.sum());
        Check.due("p10 it is told so", true, x.leaveOut(0, 3, true));
        Doc.says(10, "Throws `IndexOutOfBoundsException`");
        for (boolean isOut : new boolean[] {true, false}) {
            Twins.index("p10 dimension", 2, Stores::furnished, (y, d) -> y.leaveOut(d, 0, isOut));
            Twins.index("p10 member", 4, Stores::furnished, (y, m) -> y.leaveOut(1, m, isOut));
            Twins.index("p10 member of 24", 24, Stores::full, (y, m) -> y.leaveOut(3, m, isOut));
        }
    }
}
