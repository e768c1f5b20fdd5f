/** One method for each promise of the document, by its number: what is usual, the edges, wrong inputs. */
public final class PromiseTest {
    private static final Class<IndexOutOfBoundsException> INDEX = IndexOutOfBoundsException.class;
    private static final Class<IllegalArgumentException> ARGUMENT = IllegalArgumentException.class;
    private static final Class<IllegalStateException> STATE = IllegalStateException.class;
    private static final int[] FAR = {-1, Integer.MIN_VALUE, Integer.MAX_VALUE};

    private PromiseTest() {
    }

    public static void main(String[] args) {
        dimensions();
        thePoint();
        whatIsBeneath();
        tables();
        views();
        Check.end("PromiseTest");
    }

    private static void dimensions() {
        p01();
        p02();
        p03();
        p04();
        p05();
        p06();
        p07();
        p08();
        p09();
        p10();
    }

    private static void thePoint() {
        p11();
        p12();
        p13();
        p14();
        p15();
        p16();
        p17();
        p18();
        p19();
        p20();
        p21();
    }

    private static void whatIsBeneath() {
        p22();
        p23();
        p24();
        p25();
        p26();
        p27();
        p28();
    }

    private static void tables() {
        p29();
        p30();
        p31();
        p32();
        p33();
        p34();
        p35();
        p36();
    }

    private static void views() {
        p37();
        p38();
        p39();
        p40();
        p41();
        p42();
        p43();
        p44();
        p45();
        p46();
        p47();
        p48();
        p49();
    }

    // ---- dimensions

    private static EbbTable fullDimension() {
        EbbTable x = new EbbTable();
        x.addDimension(1);
        for (int m = 1; m < 24; m++) {
            Check.due("p03 member " + m, m, x.addMember(0, 0));
        }
        return x;
    }

    private static void p01() {
        EbbTable x = new EbbTable();
        Check.due("p01 dimensions", 0, x.dimensions());
        Check.due("p01 facts", 0, x.facts());
        Check.due("p01 views", 0, x.views());
        Check.refused("p01 rows without axes", STATE, x, x::rows);
        Check.due("p01 count", 0, x.count());
        Check.due("p01 cells", 0, x.cellCount());
        Check.due("p01 bare lines are not left out", false, x.setBare(false));
        EbbTable other = new EbbTable();
        other.addDimension(1);
        Check.due("p01 stores share nothing", 0, x.dimensions());
    }

    private static void p02() {
        EbbTable x = new EbbTable();
        for (int levels : new int[] {0, 4, -1, Integer.MIN_VALUE, Integer.MAX_VALUE}) {
            Check.refused("p02 levels " + levels, ARGUMENT, x, () -> x.addDimension(levels));
        }
        for (int d = 0; d < 4; d++) {
            Check.due("p02 dimension " + d, d, x.addDimension(1 + d % 3));
            Check.due("p02 its root alone", 1, x.members(d));
            Check.due("p02 point at its root", 0, x.pointOf(d));
            Check.due("p02 level 0 of it", 0, x.setLevel(d, 0));
        }
        Check.refused("p02 a fifth", STATE, x, () -> x.addDimension(1));
        Check.refused("p02 a fifth, and wrong levels", ARGUMENT, x, () -> x.addDimension(4));
        Check.refused("p02 a fifth, and no levels", ARGUMENT, x, () -> x.addDimension(0));
        EbbTable y = new EbbTable();
        y.addDimension(3);
        Check.due("p02 level 3 is there", 0, y.setLevel(0, 3));
        Check.refused("p02 level 4 is not", INDEX, y, () -> y.setLevel(0, 4));
        whatAddDimensionClears();
    }

    private static void whatAddDimensionClears() {
        EbbTable x = Stores.small();
        Stores.setLevels(x, 2, 1);
        x.keep();
        x.setAxes(0, 1, 1, 1);
        x.setBare(true);
        x.leaveOut(0, 3, true);
        x.leaveOut(1, 0, true);
        Stores.goTo(x, 1, 2);
        Check.due("p02 the third", 2, x.addDimension(1));
        Check.due("p02 facts are gone", 0, x.facts());
        Check.due("p02 views are gone", 0, x.views());
        Check.refused("p02 axes are gone", STATE, x, x::columns);
        Check.due("p02 nothing is left out in 0", false, x.leaveOut(0, 3, false));
        Check.due("p02 nothing is left out in 1", false, x.leaveOut(1, 0, false));
        Check.due("p02 setBare stays", true, x.setBare(true));
        Check.due("p02 members stay", 6, x.members(0));
        Check.due("p02 the point stays in 0", 1, x.pointOf(0));
        Check.due("p02 the point stays in 1", 2, x.pointOf(1));
        Check.due("p02 LEVELS stay in 0", 2, x.setLevel(0, 2));
        Check.due("p02 LEVELS stay in 1", 1, x.setLevel(1, 1));
        Check.due("p02 LEVELS of the new one", 0, x.setLevel(2, 0));
        x.addMember(2, 0);
        Check.due("p02 facts begin anew", 0, Stores.put(x, 5, 3, 1, 1));
        Check.due("p02 and nothing hides them", 5, x.sum());
    }

    private static void p03() {
        EbbTable x = new EbbTable();
        Check.refused("p03 without dimensions", INDEX, x, () -> x.addMember(0, 0));
        x.addDimension(2);
        Check.due("p03 first", 1, x.addMember(0, 0));
        Check.due("p03 beneath it", 2, x.addMember(0, 1));
        Check.due("p03 its parent", 1, x.parentOf(0, 2));
        Check.due("p03 its level", 2, x.levelOf(0, 2));
        Check.refused("p03 beneath a leaf", STATE, x, () -> x.addMember(0, 2));
        Check.refused("p03 beneath none", INDEX, x, () -> x.addMember(0, 3));
        Check.refused("p03 no such dimension", INDEX, x, () -> x.addMember(1, 0));
        for (int far : FAR) {
            Check.refused("p03 dimension " + far, INDEX, x, () -> x.addMember(far, 0));
            Check.refused("p03 parent " + far, INDEX, x, () -> x.addMember(0, far));
        }
        EbbTable full = fullDimension();
        Check.refused("p03 a member too many", STATE, full, () -> full.addMember(0, 0));
        Check.refused("p03 a member too many beneath a leaf", STATE, full, () -> full.addMember(0, 1));
        Check.refused("p03 a member too many beneath none", INDEX, full, () -> full.addMember(0, 24));
        full.addDimension(1);
        Check.due("p03 another dimension has room", 1, full.addMember(1, 0));
    }

    private static void p04() {
        EbbTable x = Stores.small();
        Check.due("p04 parent before", 1, x.move(0, 5, 2));
        Check.due("p04 parent now", 2, x.parentOf(0, 5));
        Check.due("p04 back", 2, x.move(0, 5, 1));
        Check.due("p04 to the same", 1, x.move(0, 5, 1));
        Check.due("p04 to the root again", 0, x.move(0, 1, 0));
        Check.due("p04 the level stays", 2, x.levelOf(0, 5));
        Check.refused("p04 the root", ARGUMENT, x, () -> x.move(0, 0, 0));
        Check.refused("p04 the root beneath a child", ARGUMENT, x, () -> x.move(0, 0, 1));
        Check.refused("p04 a level up", ARGUMENT, x, () -> x.move(0, 5, 0));
        Check.refused("p04 beneath its sibling", ARGUMENT, x, () -> x.move(0, 5, 3));
        Check.refused("p04 beneath itself", ARGUMENT, x, () -> x.move(0, 5, 5));
        Check.refused("p04 a level down", ARGUMENT, x, () -> x.move(0, 1, 2));
        Check.refused("p04 no such member", INDEX, x, () -> x.move(0, 6, 0));
        Check.refused("p04 no such parent", INDEX, x, () -> x.move(0, 5, 6));
        Check.refused("p04 the root to no parent", INDEX, x, () -> x.move(0, 0, 6));
        Check.refused("p04 no such dimension", INDEX, x, () -> x.move(2, 1, 0));
        for (int far : FAR) {
            Check.refused("p04 dimension " + far, INDEX, x, () -> x.move(far, 1, 0));
            Check.refused("p04 member " + far, INDEX, x, () -> x.move(0, far, 0));
            Check.refused("p04 parent " + far, INDEX, x, () -> x.move(0, 1, far));
        }
        moveTakesAllBeneath();
    }

    private static void moveTakesAllBeneath() {
        EbbTable x = new EbbTable();
        x.addDimension(3);
        for (int parent : new int[] {0, 0, 1, 2, 3}) {
            x.addMember(0, parent);
        }
        Stores.put(x, 7, 5);
        x.goTo(0, 2);
        Check.due("p04 nothing there yet", 0, x.sum());
        Check.due("p04 a member with a leaf", 1, x.move(0, 3, 2));
        Check.due("p04 the leaf came along", 7, x.sum());
        Check.due("p04 and stays beneath it", 3, x.parentOf(0, 5));
        Check.due("p04 the order: 3 ahead of 4", 3, x.memberAt(0, 2, 0));
        x.goTo(0, 1);
        Check.due("p04 it is gone from there", 0, x.count());
    }

    private static void p05() {
        EbbTable x = new EbbTable();
        Check.due("p05 none", 0, x.dimensions());
        for (int d = 1; d <= 4; d++) {
            x.addDimension(3);
            Check.due("p05 after adding", d, x.dimensions());
        }
    }

    private static void p06() {
        EbbTable x = Stores.withoutFacts();
        Check.due("p06 of 0", 6, x.members(0));
        Check.due("p06 of 1", 4, x.members(1));
        Check.refused("p06 no such dimension", INDEX, x, () -> x.members(2));
        for (int far : FAR) {
            Check.refused("p06 dimension " + far, INDEX, x, () -> x.members(far));
        }
        Check.due("p06 most", 24, fullDimension().members(0));
    }

    private static void p07() {
        EbbTable x = Stores.withoutFacts();
        Check.due("p07 of the root", -1, x.parentOf(0, 0));
        Check.due("p07 of 2", 0, x.parentOf(0, 2));
        Check.due("p07 of 4", 2, x.parentOf(0, 4));
        Check.due("p07 of 5", 1, x.parentOf(0, 5));
        Check.refused("p07 no such member", INDEX, x, () -> x.parentOf(0, 6));
        Check.refused("p07 member of another dimension", INDEX, x, () -> x.parentOf(1, 4));
        Check.refused("p07 no such dimension", INDEX, x, () -> x.parentOf(2, 0));
        for (int far : FAR) {
            Check.refused("p07 dimension " + far, INDEX, x, () -> x.parentOf(far, 0));
            Check.refused("p07 member " + far, INDEX, x, () -> x.parentOf(0, far));
        }
    }

    private static void p08() {
        EbbTable x = Stores.withoutFacts();
        Check.due("p08 of the root", 0, x.levelOf(0, 0));
        Check.due("p08 of 2", 1, x.levelOf(0, 2));
        Check.due("p08 of 4", 2, x.levelOf(0, 4));
        Check.refused("p08 no such member", INDEX, x, () -> x.levelOf(1, 4));
        Check.refused("p08 no such dimension", INDEX, x, () -> x.levelOf(2, 0));
        for (int far : FAR) {
            Check.refused("p08 dimension " + far, INDEX, x, () -> x.levelOf(far, 0));
            Check.refused("p08 member " + far, INDEX, x, () -> x.levelOf(0, far));
        }
    }

    private static void p09() {
        EbbTable x = Stores.withoutFacts();
        Check.due("p09 the root", 0, x.memberAt(0, 0, 0));
        Check.due("p09 second on 1", 2, x.memberAt(0, 1, 1));
        int[] leaves = {3, 5, 4};
        for (int place = 0; place < 3; place++) {
            Check.due("p09 leaf at " + place, leaves[place], x.memberAt(0, 2, place));
        }
        x.move(0, 3, 2);
        int[] moved = {5, 3, 4};
        for (int place = 0; place < 3; place++) {
            Check.due("p09 leaf now at " + place, moved[place], x.memberAt(0, 2, place));
        }
        x.goTo(0, 2);
        Check.due("p09 whatever the point has", 5, x.memberAt(0, 2, 0));
        Check.refused("p09 no such place", INDEX, x, () -> x.memberAt(0, 2, 3));
        Check.refused("p09 one root alone", INDEX, x, () -> x.memberAt(0, 0, 1));
        Check.refused("p09 no such level", INDEX, x, () -> x.memberAt(1, 2, 0));
        Check.refused("p09 no such dimension", INDEX, x, () -> x.memberAt(2, 0, 0));
        for (int far : FAR) {
            Check.refused("p09 dimension " + far, INDEX, x, () -> x.memberAt(far, 0, 0));
            Check.refused("p09 level " + far, INDEX, x, () -> x.memberAt(0, far, 0));
            Check.refused("p09 place " + far, INDEX, x, () -> x.memberAt(0, 1, far));
        }
        Check.due("p09 the last of 24", 23, fullDimension().memberAt(0, 1, 22));
        placesInADeepTree();
    }

    private static void placesInADeepTree() {
        EbbTable x = new EbbTable();
        x.addDimension(3);
        for (int parent : new int[] {0, 0, 2, 1, 3, 4, 3, 2, 8, 4}) {
            x.addMember(0, parent);
        }
        int[][] due = {{0}, {1, 2}, {4, 3, 8}, {6, 10, 5, 7, 9}};
        for (int level = 0; level < due.length; level++) {
            for (int place = 0; place < due[level].length; place++) {
                Check.due("p09 level " + level + " place " + place, due[level][place], x.memberAt(0, level, place));
            }
        }
        EbbTable empty = new EbbTable();
        empty.addDimension(3);
        Check.refused("p09 a level without members", INDEX, empty, () -> empty.memberAt(0, 3, 0));
    }

    private static void p10() {
        EbbTable x = Stores.small();
        Check.due("p10 not before", false, x.leaveOut(0, 1, true));
        Check.due("p10 a member with leaves", 6, x.sum());
        Check.due("p10 it was", true, x.leaveOut(0, 1, true));
        Check.due("p10 a leaf beneath by itself", false, x.leaveOut(0, 3, true));
        Check.due("p10 not any more", true, x.leaveOut(0, 1, false));
        Check.due("p10 the leaf stays out", 16, x.sum());
        Check.due("p10 it is out by itself", true, x.leaveOut(0, 3, false));
        Check.due("p10 nothing is out", 22, x.sum());
        Check.due("p10 put in again", false, x.leaveOut(0, 3, false));
        x.leaveOut(1, 0, true);
        Check.due("p10 the root: nothing counts", 0, x.count());
        Check.due("p10 but facts stay", 5, x.facts());
        Check.refused("p10 no such member", INDEX, x, () -> x.leaveOut(1, 4, true));
        Check.refused("p10 no such dimension", INDEX, x, () -> x.leaveOut(2, 0, true));
        for (int far : FAR) {
            Check.refused("p10 dimension " + far, INDEX, x, () -> x.leaveOut(far, 0, true));
            Check.refused("p10 member " + far, INDEX, x, () -> x.leaveOut(0, far, true));
        }
        x.leaveOut(1, 0, false);
        x.leaveOut(0, 1, true);
        x.move(0, 3, 2);
        Check.due("p10 a leaf moved out from beneath it", 12, x.sum());
        EbbTable deep = deepStore();
        deep.leaveOut(0, 0, true);
        Check.due("p10 a root three levels up", 0, deep.count());
        deep.leaveOut(0, 0, false);
        deep.leaveOut(0, 1, true);
        Check.due("p10 a member two levels up", 4, deep.sum());
    }

    /** One dimension: 1 and 2 on level 1, 3 and 4 beneath them, then 5 and 6; the facts 3 at 5, 4 at 6. */
    private static EbbTable deepStore() {
        EbbTable x = new EbbTable();
        x.addDimension(3);
        for (int parent : new int[] {0, 0, 1, 2, 3, 4}) {
            x.addMember(0, parent);
        }
        Stores.put(x, 3, 5);
        Stores.put(x, 4, 6);
        Stores.goTo(x, 0);
        return x;
    }

    // ---- the point

    private static void p11() {
        EbbTable x = Stores.small();
        Check.due("p11 from the root", 0, x.goTo(0, 3));
        Check.due("p11 from 3", 3, x.goTo(0, 1));
        Check.due("p11 to the same", 1, x.goTo(0, 1));
        Check.due("p11 it is there", 1, x.pointOf(0));
        Check.due("p11 the other stays", 0, x.pointOf(1));
        Check.due("p11 what is beneath", 16, x.sum());
        Check.refused("p11 no such member", INDEX, x, () -> x.goTo(0, 6));
        Check.refused("p11 no such dimension", INDEX, x, () -> x.goTo(2, 0));
        for (int far : FAR) {
            Check.refused("p11 dimension " + far, INDEX, x, () -> x.goTo(far, 0));
            Check.refused("p11 member " + far, INDEX, x, () -> x.goTo(0, far));
        }
    }

    private static void p12() {
        EbbTable x = Stores.withoutFacts();
        x.goTo(0, 5);
        Check.due("p12 to its parent", 1, x.goUp(0));
        Check.due("p12 to the root", 0, x.goUp(0));
        Check.due("p12 no further", -1, x.goUp(0));
        Check.due("p12 it stays there", 0, x.pointOf(0));
        Check.refused("p12 no such dimension", INDEX, x, () -> x.goUp(2));
        for (int far : FAR) {
            Check.refused("p12 dimension " + far, INDEX, x, () -> x.goUp(far));
        }
        x.goTo(0, 5);
        x.move(0, 5, 2);
        Check.due("p12 to the parent of now", 2, x.goUp(0));
    }

    private static void p13() {
        EbbTable x = Stores.withoutFacts();
        Check.due("p13 the root at first", 0, x.pointOf(1));
        Stores.goTo(x, 4, 2);
        Check.due("p13 of 0", 4, x.pointOf(0));
        Check.due("p13 of 1", 2, x.pointOf(1));
        Check.refused("p13 no such dimension", INDEX, x, () -> x.pointOf(2));
        for (int far : FAR) {
            Check.refused("p13 dimension " + far, INDEX, x, () -> x.pointOf(far));
        }
    }

    private static void p14() {
        EbbTable x = new EbbTable();
        Check.refused("p14 without dimensions", STATE, x, () -> x.add(0));
        Check.refused("p14 without dimensions, too great", ARGUMENT, x, () -> x.add(10001));
        EbbTable y = Stores.withoutFacts();
        Check.refused("p14 at the roots", STATE, y, () -> y.add(1));
        Stores.goTo(y, 3, 0);
        Check.refused("p14 at one root", STATE, y, () -> y.add(1));
        Stores.goTo(y, 1, 1);
        Check.refused("p14 at one that is no leaf", STATE, y, () -> y.add(1));
        Stores.goTo(y, 3, 1);
        Check.due("p14 greatest", 0, y.add(10000));
        Check.due("p14 least", 1, y.add(-10000));
        Check.due("p14 nothing", 2, y.add(0));
        Check.due("p14 three are there", 3, y.count());
        for (int value : new int[] {10001, -10001, Integer.MIN_VALUE, Integer.MAX_VALUE}) {
            Check.refused("p14 value " + value, ARGUMENT, y, () -> y.add(value));
        }
        for (int fact = 3; fact < 80; fact++) {
            Check.due("p14 fact " + fact, fact, y.add(10000));
        }
        Check.refused("p14 a fact too many", STATE, y, () -> y.add(0));
        Check.refused("p14 too many and too small", ARGUMENT, y, () -> y.add(-10001));
        Check.due("p14 80 facts", 770000, y.sum());
        y.leaveOut(0, 3, true);
        y.drop(0);
        Check.due("p14 where members are left out", 79, y.add(3));
    }

    private static void p15() {
        EbbTable x = Stores.small();
        Check.due("p15 in the middle", -4, x.drop(1));
        Check.due("p15 four are left", 4, x.facts());
        Check.due("p15 the next has its number", 6, x.drop(1));
        Check.due("p15 the last", 1, x.drop(2));
        Check.due("p15 what is left", 19, x.sum());
        Stores.goTo(x, 5, 3);
        Check.due("p15 leaves moved up with values", 9, x.sum());
        Stores.goTo(x, 0, 0);
        Check.refused("p15 no such fact", INDEX, x, () -> x.drop(2));
        for (int far : FAR) {
            Check.refused("p15 fact " + far, INDEX, x, () -> x.drop(far));
        }
        Check.due("p15 the first", 10, x.drop(0));
        Check.due("p15 the only one", 9, x.drop(0));
        Check.refused("p15 none is left", INDEX, x, () -> x.drop(0));
        EbbTable full = fullOfFacts();
        Check.due("p15 the last of 80", 79, full.drop(79));
        Check.due("p15 the first of 79", 0, full.drop(0));
        Check.due("p15 the last of 78", 78, full.drop(77));
    }

    private static EbbTable fullOfFacts() {
        EbbTable x = Stores.withoutFacts();
        Stores.goTo(x, 3, 1);
        for (int fact = 0; fact < 80; fact++) {
            x.add(fact);
        }
        return x;
    }

    private static void p16() {
        EbbTable x = Stores.small();
        Check.due("p16 all", 5, x.facts());
        x.leaveOut(0, 0, true);
        x.goTo(0, 2);
        Check.due("p16 also those left out, or elsewhere", 5, x.facts());
        x.drop(0);
        Check.due("p16 one less", 4, x.facts());
        Check.due("p16 most", 80, fullOfFacts().facts());
    }

    private static void p17() {
        EbbTable x = Stores.small();
        Check.due("p17 all", 5, x.count());
        Stores.goTo(x, 1, 0);
        Check.due("p17 beneath 1", 4, x.count());
        Stores.goTo(x, 1, 3);
        Check.due("p17 beneath 1 and 3", 2, x.count());
        Stores.goTo(x, 4, 1);
        Check.due("p17 none there", 0, x.count());
        Stores.goTo(x, 3, 0);
        x.leaveOut(1, 1, true);
        Check.due("p17 one is left out", 1, x.count());
        x.leaveOut(0, 0, true);
        Check.due("p17 all are", 0, x.count());
        Check.due("p17 no dimension", 0, new EbbTable().count());
        Check.due("p17 three levels beneath", 2, deepStore().count());
    }

    private static void p18() {
        EbbTable x = Stores.small();
        Check.due("p18 all", 22, x.sum());
        Stores.goTo(x, 3, 0);
        Check.due("p18 beneath 3", 6, x.sum());
        Stores.goTo(x, 0, 2);
        Check.due("p18 beneath 2", 2, x.sum());
        x.leaveOut(0, 2, true);
        Check.due("p18 less what is left out", -4, x.sum());
        x.leaveOut(0, 3, true);
        Check.due("p18 of none", 0, x.sum());
    }

    private static void p19() {
        EbbTable x = Stores.small();
        Check.due("p19 all", -4, x.least());
        x.goTo(0, 3);
        x.drop(1);
        Check.due("p19 the first fact", 10, x.least());
        Stores.put(x, -4, 3, 2);
        Stores.goTo(x, 5, 0);
        Check.due("p19 beneath 5", 1, x.least());
        Stores.goTo(x, 5, 1);
        Check.due("p19 without any", 0, x.least());
        Stores.goTo(x, 0, 0);
        x.leaveOut(0, 3, true);
        Check.due("p19 less what is left out", 1, x.least());
        Stores.put(x, 10000, 4, 1);
        Check.due("p19 the greatest there is", 10000, x.least());
        Stores.put(x, -10000, 4, 1);
        Check.due("p19 the least there is", -10000, x.least());
    }

    private static void p20() {
        EbbTable x = Stores.small();
        Check.due("p20 all", 10, x.greatest());
        Stores.put(x, 11, 3, 2);
        Stores.goTo(x, 0, 0);
        Check.due("p20 the last fact", 11, x.greatest());
        x.drop(5);
        Stores.goTo(x, 3, 2);
        Check.due("p20 less than 0", -4, x.greatest());
        Stores.goTo(x, 5, 1);
        Check.due("p20 without any", 0, x.greatest());
        Stores.goTo(x, 0, 0);
        x.leaveOut(0, 3, true);
        Check.due("p20 less what is left out", 9, x.greatest());
        Stores.put(x, -10000, 4, 1);
        Check.due("p20 the least there is", -10000, x.greatest());
        Stores.put(x, 10000, 4, 1);
        Check.due("p20 the greatest there is", 10000, x.greatest());
    }

    private static void p21() {
        EbbTable x = Stores.small();
        Check.due("p21 all", 22.0 / 5, x.mean());
        Stores.goTo(x, 5, 0);
        Check.due("p21 of two", 5.0, x.mean());
        Stores.goTo(x, 0, 2);
        Check.due("p21 of 6 and -4", 1.0, x.mean());
        Stores.goTo(x, 5, 1);
        Check.due("p21 without any", 0.0, x.mean());
        Stores.put(x, -1, 5, 1);
        Stores.put(x, -1, 5, 1);
        Stores.put(x, 1, 5, 1);
        Check.due("p21 not cut", -1.0 / 3, x.mean());
        x.leaveOut(0, 5, true);
        Check.due("p21 less what is left out", 0.0, x.mean());
        Check.due("p21 no dimension", 0.0, new EbbTable().mean());
    }

    // ---- what is beneath the point

    private static void p22() {
        EbbTable x = Stores.small();
        Check.due("p22 of the root", 2, x.children(0));
        Check.due("p22 of the other root", 3, x.children(1));
        x.goTo(0, 1);
        Check.due("p22 of 1", 2, x.children(0));
        x.leaveOut(0, 3, true);
        Check.due("p22 also one left out", 2, x.children(0));
        x.goTo(0, 4);
        Check.due("p22 of a leaf", 0, x.children(0));
        x.goTo(0, 2);
        x.move(0, 4, 1);
        Check.due("p22 of one that has none", 0, x.children(0));
        Check.refused("p22 no such dimension", INDEX, x, () -> x.children(2));
        for (int far : FAR) {
            Check.refused("p22 dimension " + far, INDEX, x, () -> x.children(far));
        }
        Check.due("p22 most", 23, fullDimension().children(0));
    }

    private static void p23() {
        EbbTable x = Stores.small();
        Check.due("p23 beneath 1", 16, x.sumOf(0, 0));
        Check.due("p23 beneath 2", 6, x.sumOf(0, 1));
        Check.due("p23 in the other", 10, x.sumOf(1, 2));
        Stores.goTo(x, 1, 2);
        Check.due("p23 at the point", -4, x.sumOf(0, 0));
        Check.due("p23 of none", 0, x.sumOf(0, 1));
        Check.due("p23 the point stays", 1, x.pointOf(0));
        x.leaveOut(1, 2, true);
        Check.due("p23 less what is left out", 0, x.sumOf(0, 0));
        Check.refused("p23 no such child", INDEX, x, () -> x.sumOf(0, 2));
        Check.refused("p23 a leaf has none", INDEX, x, () -> x.sumOf(1, 0));
        Check.refused("p23 no such dimension", INDEX, x, () -> x.sumOf(2, 0));
        for (int far : FAR) {
            Check.refused("p23 dimension " + far, INDEX, x, () -> x.sumOf(far, 0));
            Check.refused("p23 child " + far, INDEX, x, () -> x.sumOf(0, far));
        }
    }

    private static void p24() {
        EbbTable x = Stores.small();
        Check.due("p24 the greatest", 0, x.ranked(0, 0));
        Check.due("p24 the other", 1, x.ranked(0, 1));
        Check.due("p24 equal: the smaller number", 0, x.ranked(1, 0));
        Check.due("p24 equal: the greater number", 2, x.ranked(1, 1));
        Check.due("p24 the least", 1, x.ranked(1, 2));
        x.leaveOut(0, 5, true);
        Check.due("p24 equal now", 0, x.ranked(0, 0));
        Stores.put(x, 1, 4, 1);
        Stores.goTo(x, 0, 0);
        Check.due("p24 the second is the greatest", 1, x.ranked(0, 0));
        Check.refused("p24 not so many children", INDEX, x, () -> x.ranked(0, 2));
        Check.refused("p24 no such dimension", INDEX, x, () -> x.ranked(2, 0));
        for (int far : FAR) {
            Check.refused("p24 dimension " + far, INDEX, x, () -> x.ranked(far, 0));
            Check.refused("p24 rank " + far, INDEX, x, () -> x.ranked(0, far));
        }
        Stores.put(x, -30, 4, 1);
        Stores.put(x, -30, 3, 1);
        Stores.goTo(x, 0, 0);
        Check.due("p24 less than 0: -23 is the greatest", 1, x.ranked(0, 0));
        Check.due("p24 less than 0: -24 behind it", 0, x.ranked(0, 1));
        x.goTo(0, 4);
        Check.refused("p24 a leaf has none", INDEX, x, () -> x.ranked(0, 0));
        Check.due("p24 of 23 equal ones the last", 22, fullDimension().ranked(0, 22));
    }

    private static void p25() {
        EbbTable x = Stores.small();
        Check.due("p25 the first", 10, x.running(1, 0));
        Check.due("p25 with the second", 12, x.running(1, 1));
        Check.due("p25 all", 22, x.running(1, 2));
        x.leaveOut(1, 1, true);
        Check.due("p25 less what is left out", 12, x.running(1, 2));
        Check.refused("p25 no such child", INDEX, x, () -> x.running(1, 3));
        Check.refused("p25 no such dimension", INDEX, x, () -> x.running(2, 0));
        for (int far : FAR) {
            Check.refused("p25 dimension " + far, INDEX, x, () -> x.running(far, 0));
            Check.refused("p25 child " + far, INDEX, x, () -> x.running(0, far));
        }
        x.goTo(1, 3);
        Check.refused("p25 a leaf has none", INDEX, x, () -> x.running(1, 0));
    }

    private static void p26() {
        EbbTable x = Stores.small();
        Check.due("p26 16 of 22", 727, x.share(0, 0));
        Check.due("p26 6 of 22", 272, x.share(0, 1));
        Stores.put(x, -30, 4, 1);
        Stores.goTo(x, 0, 0);
        Check.due("p26 more than all, of less than 0", -2000, x.share(0, 0));
        Check.due("p26 -24 of -8", 3000, x.share(0, 1));
        Check.due("p26 -20 of -8", 2500, x.share(1, 0));
        Stores.put(x, 1, 4, 1);
        Stores.goTo(x, 0, 0);
        Check.due("p26 cut towards 0: 16 of -7", -2285, x.share(0, 0));
        Stores.put(x, 7, 4, 1);
        Stores.goTo(x, 0, 0);
        Check.due("p26 the sum is 0", 0, x.share(0, 0));
        Check.refused("p26 no such child", INDEX, x, () -> x.share(0, 2));
        Check.refused("p26 no such dimension", INDEX, x, () -> x.share(2, 0));
        for (int far : FAR) {
            Check.refused("p26 dimension " + far, INDEX, x, () -> x.share(far, 0));
            Check.refused("p26 child " + far, INDEX, x, () -> x.share(0, far));
        }
        x.goTo(0, 4);
        Check.refused("p26 a leaf has none", INDEX, x, () -> x.share(0, 0));
    }

    private static void p27() {
        EbbTable x = Stores.small();
        Check.due("p27 727 thousandths: 16 of 22 are less", 1, x.fewest(0, 727));
        Check.due("p27 728 thousandths", 2, x.fewest(0, 728));
        Check.due("p27 one", 1, x.fewest(0, 1));
        Check.due("p27 all", 2, x.fewest(0, 1000));
        Check.due("p27 10 and 10 of 22", 2, x.fewest(1, 909));
        Check.due("p27 all of 22", 3, x.fewest(1, 1000));
        for (int part : new int[] {0, 1001, -1, Integer.MIN_VALUE, Integer.MAX_VALUE}) {
            Check.refused("p27 part " + part, ARGUMENT, x, () -> x.fewest(0, part));
            Check.refused("p27 no such dimension and part " + part, INDEX, x, () -> x.fewest(2, part));
        }
        for (int far : FAR) {
            Check.refused("p27 dimension " + far, INDEX, x, () -> x.fewest(far, 1));
        }
        Stores.goTo(x, 3, 0);
        Check.due("p27 a leaf has no children to have it", -1, x.fewest(0, 1));
        Stores.goTo(x, 3, 2);
        Check.due("p27 less than 0: none is enough", 0, x.fewest(0, 1000));
        Stores.goTo(x, 4, 1);
        Check.due("p27 without any", 0, x.fewest(0, 1000));
        Stores.goTo(x, 0, 2);
        Check.due("p27 the first has more than all", 1, x.fewest(0, 1000));
        EbbTable big = Stores.withoutFacts();
        Stores.goTo(big, 3, 1);
        for (int fact = 0; fact < 80; fact++) {
            big.add(10000);
        }
        Stores.goTo(big, 0, 0);
        Check.due("p27 the greatest sum", 1, big.fewest(0, 1000));
    }

    private static void p28() {
        EbbTable x = Stores.small();
        Check.due("p28 by 16 and 10", 5, x.drill(0));
        Check.due("p28 the point is there", 5, x.pointOf(0));
        Check.due("p28 the other stays", 0, x.pointOf(1));
        Check.due("p28 a leaf already", 5, x.drill(0));
        Stores.goTo(x, 0, 1);
        Check.due("p28 at the point", 3, x.drill(0));
        Stores.goTo(x, 0, 2);
        Check.due("p28 by 6", 4, x.drill(0));
        Stores.goTo(x, 1, 0);
        x.leaveOut(0, 5, true);
        Check.due("p28 less what is left out", 3, x.drill(0));
        Stores.goTo(x, 0, 0);
        x.leaveOut(0, 0, true);
        Check.due("p28 equal: the smaller number", 3, x.drill(0));
        x.goTo(0, 0);
        x.move(0, 3, 2);
        x.move(0, 5, 2);
        Check.due("p28 to one without children", 1, x.drill(0));
        Check.refused("p28 no such dimension", INDEX, x, () -> x.drill(2));
        for (int far : FAR) {
            Check.refused("p28 dimension " + far, INDEX, x, () -> x.drill(far));
        }
        EbbTable deep = new EbbTable();
        deep.addDimension(3);
        for (int parent = 0; parent < 3; parent++) {
            deep.addMember(0, parent);
        }
        Check.due("p28 three levels down", 3, deep.drill(0));
    }

    // ---- tables

    private static void p29() {
        EbbTable x = Stores.small();
        Check.due("p29 rows", 3, x.setAxes(1, 1, 0, 1));
        Check.due("p29 anew", 2, x.setAxes(0, 1, 1, 1));
        Check.due("p29 of the level 0", 1, x.setAxes(0, 0, 1, 0));
        Check.due("p29 of the level 2", 3, x.setAxes(0, 2, 1, 0));
        Check.due("p29 one column of the level 0", 1, x.columns());
        x.setAxes(0, 1, 1, 1);
        Check.due("p29 columns of the dimension 1", 3, x.columns());
        Check.due("p29 rows of the dimension 0", 2, x.rows());
        x.goTo(0, 2);
        Check.due("p29 they stay", 1, x.rows());
        Check.due("p29 above the point is none", 0, x.setAxes(0, 0, 1, 1));
        Check.due("p29 the point itself", 1, x.setAxes(0, 1, 1, 1));
        x.setBare(true);
        Check.due("p29 bare ones are not told", 1, x.setAxes(1, 1, 0, 1));
        Check.refused("p29 both the same", ARGUMENT, x, () -> x.setAxes(0, 1, 0, 1));
        Check.refused("p29 both the same, other levels", ARGUMENT, x, () -> x.setAxes(0, 1, 0, 2));
        Check.refused("p29 both the same, no such level", INDEX, x, () -> x.setAxes(1, 1, 1, 2));
        Check.refused("p29 no such row level", INDEX, x, () -> x.setAxes(1, 2, 0, 1));
        Check.refused("p29 no such column level", INDEX, x, () -> x.setAxes(1, 1, 0, 3));
        Check.refused("p29 no such rows", INDEX, x, () -> x.setAxes(2, 0, 0, 0));
        Check.refused("p29 no such columns", INDEX, x, () -> x.setAxes(0, 0, 2, 0));
        for (int far : FAR) {
            Check.refused("p29 rows " + far, INDEX, x, () -> x.setAxes(far, 0, 1, 0));
            Check.refused("p29 row level " + far, INDEX, x, () -> x.setAxes(0, far, 1, 0));
            Check.refused("p29 columns " + far, INDEX, x, () -> x.setAxes(0, 0, far, 0));
            Check.refused("p29 column level " + far, INDEX, x, () -> x.setAxes(0, 0, 1, far));
        }
        EbbTable bare = Stores.small();
        Check.refused("p29 refused ones set none", ARGUMENT, bare, () -> bare.setAxes(1, 0, 1, 0));
    }

    private static void p30() {
        EbbTable x = Stores.small();
        Check.due("p30 not at first", false, x.setBare(true));
        Check.due("p30 they were", true, x.setBare(true));
        x.setAxes(1, 1, 0, 2);
        Stores.goTo(x, 2, 0);
        Check.due("p30 one row has facts", 1, x.rows());
        Check.due("p30 they were still", true, x.setBare(false));
        Check.due("p30 all rows again", 3, x.rows());
        Check.due("p30 they were not", false, x.setBare(false));
    }

    private static void p31() {
        EbbTable x = Stores.small();
        Check.refused("p31 no axes", STATE, x, x::rows);
        x.setAxes(0, 2, 1, 1);
        Check.due("p31 all leaves", 3, x.rows());
        x.goTo(0, 1);
        Check.due("p31 those beneath 1", 2, x.rows());
        x.goTo(1, 1);
        Check.due("p31 whatever the columns", 2, x.rows());
        x.setBare(true);
        Check.due("p31 those with facts", 1, x.rows());
        x.leaveOut(1, 1, true);
        Check.due("p31 none counts", 0, x.rows());
        x.leaveOut(1, 1, false);
        x.setAxes(0, 2, 1, 0);
        Check.due("p31 rows without cells", 0, x.rows());
        x.setBare(false);
        Check.due("p31 are there otherwise", 2, x.rows());
        x.goTo(0, 3);
        Check.due("p31 the leaf of the point", 1, x.rows());
    }

    private static void p32() {
        EbbTable x = Stores.small();
        Check.refused("p32 no axes", STATE, x, x::columns);
        x.setAxes(1, 1, 0, 2);
        Check.due("p32 all leaves", 3, x.columns());
        x.goTo(0, 1);
        Check.due("p32 those beneath 1", 2, x.columns());
        x.goTo(1, 1);
        x.setBare(true);
        Check.due("p32 those with facts", 1, x.columns());
        x.setAxes(1, 0, 0, 2);
        Check.due("p32 columns without cells", 0, x.columns());
        x.setBare(false);
        Check.due("p32 are there otherwise", 2, x.columns());
        x.goTo(0, 0);
        x.goTo(1, 0);
        x.setAxes(1, 1, 0, 1);
        x.leaveOut(0, 2, true);
        Check.due("p32 left out members are lines", 2, x.columns());
        x.setBare(true);
        Check.due("p32 but bare ones", 1, x.columns());
    }

    private static void p33() {
        EbbTable x = Stores.small();
        Check.refused("p33 no axes", STATE, x, () -> x.rowMember(0));
        Check.refused("p33 no axes and no row", STATE, x, () -> x.rowMember(-1));
        x.setAxes(0, 2, 1, 1);
        int[] rows = {3, 5, 4};
        for (int row = 0; row < 3; row++) {
            Check.due("p33 row " + row, rows[row], x.rowMember(row));
        }
        Check.refused("p33 no such row", INDEX, x, () -> x.rowMember(3));
        for (int far : FAR) {
            Check.refused("p33 row " + far, INDEX, x, () -> x.rowMember(far));
        }
        x.setBare(true);
        x.leaveOut(0, 3, true);
        Check.due("p33 the first that is not bare", 5, x.rowMember(0));
        Check.due("p33 the second", 4, x.rowMember(1));
        Check.refused("p33 a bare one", INDEX, x, () -> x.rowMember(2));
    }

    private static void p34() {
        EbbTable x = Stores.small();
        Check.refused("p34 no axes", STATE, x, () -> x.columnMember(0));
        Check.refused("p34 no axes and no column", STATE, x, () -> x.columnMember(-1));
        x.setAxes(1, 1, 0, 2);
        int[] columns = {3, 5, 4};
        for (int column = 0; column < 3; column++) {
            Check.due("p34 column " + column, columns[column], x.columnMember(column));
        }
        Check.refused("p34 no such column", INDEX, x, () -> x.columnMember(3));
        for (int far : FAR) {
            Check.refused("p34 column " + far, INDEX, x, () -> x.columnMember(far));
        }
        x.setBare(true);
        x.goTo(1, 2);
        Check.due("p34 the first that is not bare", 3, x.columnMember(0));
        Check.due("p34 the second", 4, x.columnMember(1));
        Check.refused("p34 a bare one", INDEX, x, () -> x.columnMember(2));
        x.setAxes(0, 0, 1, 1);
        Stores.goTo(x, 5, 0);
        Check.refused("p34 above the point is no row", INDEX, x, () -> x.columnMember(0));
        x.setAxes(0, 2, 1, 1);
        Check.due("p34 of the dimension 1", 3, x.columnMember(0));
    }

    private static void p35() {
        EbbTable x = Stores.small();
        Check.refused("p35 no axes", STATE, x, () -> x.cell(0, 0));
        Check.refused("p35 no axes and no row", STATE, x, () -> x.cell(-1, 0));
        x.setAxes(1, 1, 0, 1);
        int[][] due = {{10, 0}, {-4, 6}, {10, 0}};
        for (int row = 0; row < 3; row++) {
            for (int column = 0; column < 2; column++) {
                Check.due("p35 cell " + row + ", " + column, due[row][column], x.cell(row, column));
            }
        }
        Check.refused("p35 no such row", INDEX, x, () -> x.cell(3, 0));
        Check.refused("p35 no such column", INDEX, x, () -> x.cell(0, 2));
        for (int far : FAR) {
            Check.refused("p35 row " + far, INDEX, x, () -> x.cell(far, 0));
            Check.refused("p35 column " + far, INDEX, x, () -> x.cell(0, far));
        }
        x.leaveOut(0, 5, true);
        Check.due("p35 less what is left out", 0, x.cell(2, 0));
        x.setBare(true);
        Check.due("p35 the rows that are not bare", -4, x.cell(1, 0));
        Check.refused("p35 a bare row", INDEX, x, () -> x.cell(2, 0));
        x.goTo(0, 2);
        Check.due("p35 the only cell", 6, x.cell(0, 0));
        Check.refused("p35 a bare column", INDEX, x, () -> x.cell(0, 1));
        theThirdDimensionCounts();
        linesAheadAreBare();
        droppedFactsAreInNoCell();
    }

    private static void linesAheadAreBare() {
        EbbTable x = Stores.small();
        x.setBare(true);
        x.setAxes(0, 2, 1, 1);
        x.leaveOut(0, 3, true);
        int[][] due = {{0, 10}, {6, 0}};
        for (int row = 0; row < 2; row++) {
            for (int column = 0; column < 2; column++) {
                Check.due("p35 behind bare ones " + row + ", " + column, due[row][column], x.cell(row, column));
            }
        }
        x.leaveOut(0, 3, false);
        x.leaveOut(1, 1, true);
        Check.due("p35 bare columns ahead, bare rows not", -4, x.cell(0, 0));
        Check.due("p35 the columns behind", 10, x.cell(1, 1));
    }

    private static void droppedFactsAreInNoCell() {
        EbbTable x = Stores.small();
        x.setAxes(0, 1, 1, 1);
        x.drop(4);
        Check.due("p35 less what is dropped", 9, x.cell(0, 2));
        EbbTable full = fullOfFacts();
        Stores.goTo(full, 0, 0);
        full.setAxes(0, 1, 1, 1);
        Check.due("p35 of 80 facts", 79 * 40, full.cell(0, 0));
    }

    private static void theThirdDimensionCounts() {
        EbbTable x = Stores.withoutFacts();
        x.addDimension(1);
        x.addMember(2, 0);
        x.addMember(2, 0);
        Stores.put(x, 5, 3, 1, 1);
        Stores.put(x, 7, 3, 1, 2);
        Stores.goTo(x, 0, 0, 0);
        x.setAxes(0, 1, 1, 1);
        Check.due("p35 all of the third", 12, x.cell(0, 0));
        x.goTo(2, 2);
        Check.due("p35 those beneath the point", 7, x.cell(0, 0));
        x.leaveOut(2, 2, true);
        Check.due("p35 left out in the third", 0, x.cell(0, 0));
        x.setBare(true);
        Check.due("p35 so all is bare", 0, x.rows() + x.columns());
    }

    private static void p36() {
        EbbTable x = Stores.small();
        Check.refused("p36 no axes", STATE, x, () -> x.peak(0));
        Check.refused("p36 no axes and no row", STATE, x, () -> x.peak(-1));
        x.setAxes(1, 1, 0, 1);
        Check.due("p36 10 and 0", 0, x.peak(0));
        Check.due("p36 -4 and 6", 1, x.peak(1));
        x.leaveOut(1, 3, true);
        Check.due("p36 equal: the first", 0, x.peak(2));
        Check.refused("p36 no such row", INDEX, x, () -> x.peak(3));
        for (int far : FAR) {
            Check.refused("p36 row " + far, INDEX, x, () -> x.peak(far));
        }
        Stores.put(x, -9, 4, 2);
        Stores.goTo(x, 0, 0);
        Check.due("p36 less than 0: -4 and -3", 1, x.peak(1));
        x.setAxes(1, 1, 0, 0);
        x.goTo(0, 1);
        Check.due("p36 without columns", -1, x.peak(0));
        x.setBare(true);
        Check.refused("p36 without columns rows are bare", INDEX, x, () -> x.peak(0));
        x.setAxes(1, 1, 0, 2);
        x.leaveOut(0, 3, true);
        x.leaveOut(1, 3, false);
        Check.due("p36 counted by columns that are shown", 0, x.peak(0));
    }

    // ---- views

    private static void p37() {
        EbbTable x = Stores.small();
        Check.due("p37 0 at first", 0, x.setLevel(0, 2));
        Check.due("p37 2 before", 2, x.setLevel(0, 1));
        Check.due("p37 the other is 0", 0, x.setLevel(1, 1));
        Check.due("p37 1 before", 1, x.setLevel(0, 1));
        Check.refused("p37 no such level", INDEX, x, () -> x.setLevel(1, 2));
        Check.refused("p37 no such level of 0", INDEX, x, () -> x.setLevel(0, 3));
        Check.refused("p37 no such dimension", INDEX, x, () -> x.setLevel(2, 0));
        for (int far : FAR) {
            Check.refused("p37 dimension " + far, INDEX, x, () -> x.setLevel(far, 0));
            Check.refused("p37 level " + far, INDEX, x, () -> x.setLevel(0, far));
        }
        EbbTable four = new EbbTable();
        for (int d = 0; d < 4; d++) {
            four.addDimension(3);
            four.setLevel(d, 3 - d);
        }
        for (int d = 0; d < 4; d++) {
            Check.due("p37 each its own " + d, 3 - d, four.setLevel(d, 0));
        }
    }

    private static void p38() {
        EbbTable x = Stores.small();
        int[][] due = {{1, 3}, {2, 4}, {3, 4}};
        for (int first = 0; first <= 2; first++) {
            for (int second = 0; second <= 1; second++) {
                Stores.setLevels(x, first, second);
                Check.due("p38 LEVELS " + first + ", " + second, due[first][second], x.cellCount());
            }
        }
        Stores.goTo(x, 4, 1);
        x.leaveOut(0, 0, true);
        Check.due("p38 of all facts", 4, x.cellCount());
        Stores.setLevels(x, 1, 0);
        x.move(0, 4, 1);
        Check.due("p38 a leaf moved", 1, x.cellCount());
        Check.due("p38 without facts", 0, Stores.withoutFacts().cellCount());
        EbbTable deep = deepStore();
        Check.due("p38 three levels up they are one", 1, deep.cellCount());
        deep.setLevel(0, 1);
        Check.due("p38 two levels up they are two", 2, deep.cellCount());
        Check.due("p38 without dimensions", 0, new EbbTable().cellCount());
        EbbTable four = fourDimensions();
        Stores.setLevels(four, 3, 3, 3, 3);
        Check.due("p38 all different", 24, four.cellCount());
        Stores.setLevels(four, 3, 0, 0, 0);
        Check.due("p38 four in dimension 0", 4, four.cellCount());
        Stores.setLevels(four, 0, 0, 0, 3);
        Check.due("p38 two in dimension 3", 2, four.cellCount());
    }

    /** Four dimensions of three levels; 24 facts in cells of their own: 4 by 3 by 1 by 2 leaves. */
    private static EbbTable fourDimensions() {
        EbbTable x = new EbbTable();
        int[] leaves = {4, 3, 1, 2};
        for (int d = 0; d < 4; d++) {
            x.addDimension(3);
            x.addMember(d, 0);
            x.addMember(d, 1);
            for (int leaf = 0; leaf < leaves[d]; leaf++) {
                x.addMember(d, 2);
            }
        }
        for (int fact = 0; fact < 24; fact++) {
            Stores.put(x, fact, 3 + fact % 4, 3 + fact / 4 % 3, 3, 3 + fact / 12);
        }
        return x;
    }

    private static void p39() {
        EbbTable x = Stores.small();
        for (int view = 0; view < 6; view++) {
            Stores.setLevels(x, view % 3, 0);
            Check.due("p39 view " + view, view, x.keep());
            Check.due("p39 it has rows", view % 3 + 1, x.rowsOf(view));
            Check.due("p39 it is not stale", false, x.isStale(view));
        }
        Check.refused("p39 a view too many", STATE, x, x::keep);
        x.dropView(0);
        Check.due("p39 the same LEVELS once more", 5, x.keep());
        EbbTable empty = new EbbTable();
        Check.due("p39 without dimensions", 0, empty.keep());
        Check.due("p39 it has no rows", 0, empty.rowsOf(0));
        Check.due("p39 without facts", 0, Stores.withoutFacts().keep());
        EbbTable y = Stores.small();
        Stores.setLevels(y, 2, 1);
        y.keep();
        Stores.setLevels(y, 1, 0);
        Check.due("p39 its LEVELS stay", 4, y.refresh(0));
    }

    private static void p40() {
        EbbTable x = Stores.small();
        x.keep();
        Stores.setLevels(x, 1, 0);
        x.keep();
        Stores.setLevels(x, 1, 1);
        x.drop(4);
        x.keep();
        Check.due("p40 two are left", 2, x.dropView(0));
        Check.due("p40 rows moved up", 2, x.rowsOf(0));
        Check.due("p40 the other's too", 4, x.rowsOf(1));
        Check.due("p40 stale too", true, x.isStale(0));
        Check.due("p40 the other is not", false, x.isStale(1));
        Check.refused("p40 no such view", INDEX, x, () -> x.dropView(2));
        for (int far : FAR) {
            Check.refused("p40 view " + far, INDEX, x, () -> x.dropView(far));
        }
        Stores.setLevels(x, 2, 1);
        x.keep();
        Check.due("p40 the last", 2, x.dropView(2));
        Check.due("p40 LEVELS moved up", 2, x.refresh(0));
        Check.due("p40 one is left", 1, x.dropView(0));
        Check.due("p40 none is left", 0, x.dropView(0));
        Check.refused("p40 none is there", INDEX, x, () -> x.dropView(0));
        for (int view = 0; view < 6; view++) {
            x.keep();
        }
        Check.due("p40 the last of 6", 5, x.dropView(5));
    }

    private static void p41() {
        EbbTable x = Stores.small();
        Stores.setLevels(x, 2, 1);
        x.keep();
        Stores.setLevels(x, 0, 0);
        x.keep();
        Stores.put(x, 3, 4, 1);
        Check.due("p41 rows are as they were", 4, x.rowsOf(0));
        Check.due("p41 it has one more", 5, x.refresh(0));
        Check.due("p41 rows are told so", 5, x.rowsOf(0));
        Check.due("p41 it is not stale", false, x.isStale(0));
        Check.due("p41 the other still is", true, x.isStale(1));
        Check.due("p41 the LEVELS stay", 0, x.setLevel(0, 0));
        Check.due("p41 one that is not stale", 5, x.refresh(0));
        Check.refused("p41 no such view", INDEX, x, () -> x.refresh(2));
        for (int far : FAR) {
            Check.refused("p41 view " + far, INDEX, x, () -> x.refresh(far));
        }
    }

    private static void p42() {
        EbbTable x = Stores.small();
        Check.due("p42 none", 0, x.views());
        x.keep();
        x.keep();
        Check.due("p42 two", 2, x.views());
        x.drop(0);
        Check.due("p42 also stale ones", 2, x.views());
        x.dropView(1);
        Check.due("p42 one", 1, x.views());
        x.addDimension(1);
        Check.due("p42 a dimension drops them", 0, x.views());
    }

    private static void p43() {
        EbbTable x = Stores.small();
        Stores.setLevels(x, 2, 1);
        x.keep();
        Check.due("p43 as it was kept", 4, x.rowsOf(0));
        Stores.setLevels(x, 0, 0);
        x.drop(2);
        Check.due("p43 stale rows stay", 4, x.rowsOf(0));
        x.refresh(0);
        Check.due("p43 as it was refreshed", 3, x.rowsOf(0));
        Check.refused("p43 no such view", INDEX, x, () -> x.rowsOf(1));
        for (int far : FAR) {
            Check.refused("p43 view " + far, INDEX, x, () -> x.rowsOf(far));
        }
    }

    private static void p44() {
        EbbTable x = Stores.small();
        x.keep();
        Check.due("p44 not at first", false, x.isStale(0));
        x.addMember(0, 0);
        x.leaveOut(0, 1, true);
        Stores.goTo(x, 3, 1);
        x.setLevel(0, 1);
        x.setAxes(0, 1, 1, 1);
        x.drill(0);
        x.advise();
        Check.due("p44 not by what moves no fact", false, x.isStale(0));
        Check.refused("p44 a move that is refused", ARGUMENT, x, () -> x.move(0, 0, 0));
        Check.refused("p44 a drop that is refused", INDEX, x, () -> x.drop(5));
        Check.refused("p44 an add that is refused", ARGUMENT, x, () -> x.add(10001));
        Check.due("p44 not by what is refused", false, x.isStale(0));
        Stores.goTo(x, 3, 1);
        x.add(1);
        Check.due("p44 by add", true, x.isStale(0));
        x.drop(5);
        Check.due("p44 still, though all is as before", true, x.isStale(0));
        x.refresh(0);
        x.drop(0);
        Check.due("p44 by drop", true, x.isStale(0));
        x.refresh(0);
        x.move(0, 6, 0);
        Check.due("p44 by move to the same parent, without facts", true, x.isStale(0));
        x.keep();
        Check.due("p44 a new one is not", false, x.isStale(1));
        for (int view = 2; view < 6; view++) {
            x.keep();
        }
        x.drop(0);
        for (int view = 0; view < 6; view++) {
            Check.due("p44 each of 6: " + view, true, x.isStale(view));
        }
        while (x.views() > 2) {
            x.dropView(2);
        }
        Check.refused("p44 no such view", INDEX, x, () -> x.isStale(2));
        for (int far : FAR) {
            Check.refused("p44 view " + far, INDEX, x, () -> x.isStale(far));
        }
    }

    private static void p45() {
        EbbTable x = Stores.small();
        Check.due("p45 all facts", 5, x.cost());
        Stores.setLevels(x, 1, 1);
        x.keep();
        Check.due("p45 by the view", 4, x.cost());
        Stores.setLevels(x, 0, 1);
        Check.due("p45 a question above", 4, x.cost());
        x.keep();
        Check.due("p45 by the cheaper one", 3, x.cost());
        Stores.setLevels(x, 2, 0);
        Check.due("p45 no view is that deep", 5, x.cost());
        Stores.setLevels(x, 1, 0);
        Check.due("p45 one is deep enough", 4, x.cost());
        x.leaveOut(0, 0, true);
        Check.due("p45 of all facts", 4, x.cost());
        x.drop(4);
        Check.due("p45 stale ones do not answer", 4, x.cost());
        x.drop(3);
        Check.due("p45 all facts are fewer", 3, x.cost());
        x.refresh(0);
        Check.due("p45 as many", 3, x.cost());
        Check.due("p45 no dimension", 0, new EbbTable().cost());
    }

    private static void p46() {
        EbbTable x = Stores.small();
        Check.due("p46 all facts", -1, x.answeredBy());
        Stores.setLevels(x, 2, 1);
        x.keep();
        Check.due("p46 the first", 0, x.answeredBy());
        Stores.setLevels(x, 1, 1);
        x.keep();
        Check.due("p46 equal: the smaller number", 0, x.answeredBy());
        Stores.setLevels(x, 0, 1);
        x.keep();
        Check.due("p46 the cheapest", 2, x.answeredBy());
        x.keep();
        Check.due("p46 the first of the cheapest", 2, x.answeredBy());
        x.dropView(2);
        Check.due("p46 the other has its number", 2, x.answeredBy());
        x.drop(4);
        Check.due("p46 all are stale", -1, x.answeredBy());
        x.refresh(0);
        Check.due("p46 not cheaper than all facts", -1, x.answeredBy());
        x.refresh(2);
        Check.due("p46 refreshed", 2, x.answeredBy());
        Stores.setLevels(x, 1, 0);
        Check.due("p46 not deep enough", -1, x.answeredBy());
        EbbTable empty = new EbbTable();
        empty.keep();
        Check.due("p46 nothing costs less than nothing", -1, empty.answeredBy());
    }

    private static void p47() {
        EbbTable x = Stores.small();
        int[][] due = {{4, 4}, {6, 4}, {6, 6}};
        for (int first = 0; first <= 2; first++) {
            for (int second = 0; second <= 1; second++) {
                Stores.setLevels(x, first, second);
                Check.due("p47 LEVELS " + first + ", " + second, due[first][second], x.gain());
            }
        }
        Stores.setLevels(x, 1, 0);
        x.keep();
        Check.due("p47 of what there is already", 0, x.gain());
        Stores.setLevels(x, 0, 0);
        Check.due("p47 above it", 1, x.gain());
        Stores.setLevels(x, 2, 0);
        Check.due("p47 one is cheaper without", 2, x.gain());
        x.drop(1);
        Check.due("p47 a stale view is none", 3, x.gain());
        Check.due("p47 without facts", 0, Stores.withoutFacts().gain());
        Check.due("p47 without dimensions", 0, new EbbTable().gain());
    }

    private static void p48() {
        EbbTable x = Stores.small();
        Check.due("p48 6 is the most", 6, x.advise());
        Check.due("p48 of 1, 0 and 2, 0 and 2, 1: in 0", 1, x.setLevel(0, 0));
        Check.due("p48 in 1", 0, x.setLevel(1, 1));
        Stores.setLevels(x, 1, 0);
        x.keep();
        Check.due("p48 with a view", 4, x.advise());
        Check.due("p48 the LEVELS in 0", 2, x.setLevel(0, 2));
        Check.due("p48 the LEVELS in 1", 1, x.setLevel(1, 1));
        Check.due("p48 it is their gain", 4, x.gain());
        EbbTable y = Stores.withoutFacts();
        Stores.setLevels(y, 2, 1);
        Check.due("p48 no gain", 0, y.advise());
        Check.due("p48 the smallest in 0", 0, y.setLevel(0, 0));
        Check.due("p48 the smallest in 1", 0, y.setLevel(1, 0));
        Check.due("p48 without dimensions", 0, new EbbTable().advise());
        EbbTable four = fourDimensions();
        Stores.put(four, 1, 3, 3, 3, 3);
        int gain = four.advise();
        Check.due("p48 of four", gain, four.gain());
        int[] due = {2, 3, 3, 3};
        for (int d = 0; d < 4; d++) {
            Check.due("p48 of four: in " + d, due[d], four.setLevel(d, due[d]));
        }
        Check.due("p48 of four: 192 LEVELS for 6 cells", 192 * 19, gain);
    }

    private static void p49() {
        EbbTable x = new EbbTable();
        long due = 2539;
        for (int v : new int[] {0, 0, 0, 0, 0, 0, 0, 0, 0, -1, 0}) {
            due = due * 31 + v;
        }
        Check.due("p49 a new store", due, x.digest());
        EbbTable y = Stores.small();
        Stores.setLevels(y, 1, 0);
        y.keep();
        y.drop(4);
        Stores.setLevels(y, 2, 1);
        y.keep();
        Check.due("p49 without axes", digestBy(y, false), y.digest());
        y.setAxes(1, 1, 0, 2);
        Check.due("p49 with axes", digestBy(y, true), y.digest());
        y.setBare(true);
        Stores.goTo(y, 1, 0);
        Check.due("p49 without bare lines", digestBy(y, true), y.digest());
        y.leaveOut(0, 3, true);
        Check.due("p49 less what is left out", digestBy(y, true), y.digest());
        long before = y.digest();
        Check.due("p49 it changes nothing", before, y.digest());
    }

    private static long digestBy(EbbTable x, boolean hasAxes) {
        long d = 2539 * 31 + x.dimensions();
        for (int i = 0; i < x.dimensions(); i++) {
            d = d * 31 + x.members(i);
            for (int m = 0; m < x.members(i); m++) {
                d = d * 31 + x.parentOf(i, m);
                d = d * 31 + x.levelOf(i, m);
            }
            d = d * 31 + x.pointOf(i);
            int level = x.setLevel(i, 0);
            x.setLevel(i, level);
            d = d * 31 + level;
        }
        for (int v : new int[] {x.facts(), x.count(), x.sum(), x.least(), x.greatest()}) {
            d = d * 31 + v;
        }
        for (int i = 0; i < x.dimensions(); i++) {
            d = d * 31 + x.children(i);
            for (int rank = 0; rank < x.children(i); rank++) {
                d = d * 31 + x.ranked(i, rank);
            }
        }
        d = hasAxes ? digestByTable(x, d) : d;
        d = d * 31 + x.views();
        for (int v = 0; v < x.views(); v++) {
            d = d * 31 + x.rowsOf(v);
            d = d * 31 + (x.isStale(v) ? 1 : 0);
        }
        for (int v : new int[] {x.cellCount(), x.cost(), x.answeredBy(), x.gain()}) {
            d = d * 31 + v;
        }
        return d;
    }

    private static long digestByTable(EbbTable x, long before) {
        long d = (before * 31 + x.rows()) * 31 + x.columns();
        for (int row = 0; row < x.rows(); row++) {
            d = d * 31 + x.rowMember(row);
        }
        for (int column = 0; column < x.columns(); column++) {
            d = d * 31 + x.columnMember(column);
        }
        for (int row = 0; row < x.rows(); row++) {
            for (int column = 0; column < x.columns(); column++) {
                d = d * 31 + x.cell(row, column);
            }
        }
        return d;
    }
}
