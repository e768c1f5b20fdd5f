import java.util.function.Consumer;

/** A test for each sentence of the document's Terms, at the bounds that it names. */
public final class TermsTest {
    private TermsTest() {
    }

    public static void main(String[] args) {
        numbers();
        dimensions();
        factsAndThePoint();
        tables();
        views();
        whatIsRefused();
        whatOnlyAsks();
        Doc.isTested(Doc.TERMS, Doc.TERMS);
        Check.end("TermsTest");
    }

    private static void numbers() {
        allNumbersAreWhole();
        divisionIsCutTowardsZero();
    }

    private static void dimensions() {
        atMostFourDimensionsOfOneToThreeLevels();
        theRootIsMemberZeroAndTheGreatestLevelHasLeaves();
        atMost24Members();
        childrenAreInTheOrderOfTheirNumbers();
        aMemberIsBeneathItself();
        membersOfALevelAreInTheOrderOfAWalk();
    }

    private static void factsAndThePoint() {
        thePointIsAtTheRootsAtFirst();
        atMost80Facts();
        beneathThePointInEachDimension();
        noneIsLeftOutAtFirst();
        aFactCountsIfNoneAboveItIsLeftOut();
        whatIsOfAllFacts();
    }

    private static void tables() {
        rowsAndColumnsAreOfTheirOwnDimensions();
        linesAreBeneathThePoint();
        whatACellIsOf();
        bareLines();
    }

    private static void views() {
        levelsAreZeroAtFirst();
        cellsAreDifferentRowsOfMembers();
        atMostSixViews();
        staleFromTheNextChangeOn();
        aDimensionDropsAllViews();
        whatCanAnswerAQuestion();
        theCostIsTheLeast();
        theGainIsOfWhatIsLess();
        theAdviceIsTheSmallestOfTheGreatest();
    }

    private static void whatIsRefused() {
        whatThrowsChangesNothing();
        theExceptionNamedFirstIsThrown();
    }

    private static void whatOnlyAsks() {
        questionsChangeNothing();
        questionsOfATableChangeNothing();
        whatHasNoFurtherToGoChangesNothing();
    }

    // ---- numbers

    private static void allNumbersAreWhole() {
        Doc.says(Doc.TERMS, "All numbers are whole");
        EbbTable x = Stores.row(1, 2);
        Check.due("only the mean is not whole", 1.5, x.mean());
        Check.due("a share is", 333, x.share(0, 0));
    }

    private static void divisionIsCutTowardsZero() {
        Doc.says(Doc.TERMS, "/ is cut towards 0");
        EbbTable x = Stores.row(2, 4, -3);
        Check.due("2000 / 3", 666, x.share(0, 0));
        Check.due("-3000 / 3", -1000, x.share(0, 2));
        EbbTable y = Stores.row(2, -1, -4);
        Check.due("2000 / -3", -666, y.share(0, 0));
        Check.due("-1000 / -3", 333, y.share(0, 1));
        EbbTable tiny = Stores.row(1, 10000, -1, -10000, 9999);
        Check.due("1000 / 9999", 0, tiny.share(0, 0));
        Check.due("-1000 / 9999", 0, tiny.share(0, 2));
    }

    // ---- 1. dimensions

    private static void atMostFourDimensionsOfOneToThreeLevels() {
        Doc.says(Doc.TERMS, "At most 4 dimensions");
        EbbTable x = new EbbTable();
        int[] levels = {1, 3, 2, 3};
        for (int d = 0; d < 4; d++) {
            Check.due("dimension " + d, d, x.addDimension(levels[d]));
            Check.due("its greatest level is there", 0, x.setLevel(d, levels[d]));
            Check.due("and was set", levels[d], x.setLevel(d, 0));
        }
        Check.due("four are there", 4, x.dimensions());
        Twins.refused("a fifth dimension", Twins.STATE, () -> Stores.withLevels(1, 3, 2, 3), y -> y.addDimension(1));
        Twins.refused("no level", Twins.ARGUMENT, () -> Stores.withLevels(1), y -> y.addDimension(0));
        Twins.refused("four levels", Twins.ARGUMENT, () -> Stores.withLevels(1), y -> y.addDimension(4));
    }

    private static void theRootIsMemberZeroAndTheGreatestLevelHasLeaves() {
        Doc.says(Doc.TERMS, "the member 0 is its root");
        for (int levels = 1; levels <= 3; levels++) {
            EbbTable x = Stores.withLevels(levels);
            Check.due("the root alone", 1, x.members(0));
            Check.due("the root is on the level 0", 0, x.levelOf(0, 0));
            for (int level = 1; level <= levels; level++) {
                int above = level - 1;
                int deepest = levels;
                Twins.refused("no leaf on the level " + above, Twins.STATE, () -> chain(deepest, above, above),
                        y -> y.add(1));
                Check.due("numbered from 1 on", level, x.addMember(0, above));
                Check.due("a level greater than its parent", level, x.levelOf(0, level));
                Check.due("beneath it", above, x.parentOf(0, level));
            }
            int leaf = levels;
            Twins.accepted("a fact at a leaf", () -> chain(leaf, leaf, leaf), y -> y.add(1));
            Twins.refused("beneath a leaf", Twins.STATE, () -> chain(leaf, leaf, leaf), y -> y.addMember(0, leaf));
        }
    }

    /** One dimension with a member on each of its first levels, the POINT at one of them. */
    private static EbbTable chain(int levels, int members, int point) {
        EbbTable x = Stores.withLevels(levels);
        for (int parent = 0; parent < members; parent++) {
            x.addMember(0, parent);
        }
        x.goTo(0, point);
        return x;
    }

    private static void atMost24Members() {
        Doc.says(Doc.TERMS, "At most 24 members");
        EbbTable x = Stores.wide(22);
        Check.due("the root and 22", 23, x.members(0));
        Check.due("the last that has room", 23, x.addMember(0, 0));
        Check.due("24 with the root", 24, x.members(0));
        Twins.refused("a 25th member", Twins.STATE, () -> Stores.wide(23), y -> y.addMember(0, 0));
        for (int d = 0; d < 4; d++) {
            int dimension = d;
            Check.due("24 in each, " + d, 24, Stores.full().members(d));
            Twins.refused("a 25th in " + d, Twins.STATE, Stores::full, y -> y.addMember(dimension, 1));
        }
    }

    private static void childrenAreInTheOrderOfTheirNumbers() {
        Doc.says(Doc.TERMS, "The children of a member are in the order of their numbers");
        EbbTable x = Stores.grow(Stores.withLevels(2), 0, 0, 0, 2, 1, 1, 2);
        for (int leaf = 3; leaf <= 6; leaf++) {
            Stores.put(x, leaf, leaf);
        }
        x.goTo(0, 1);
        sumsOfChildren(x, 4, 5);
        x.move(0, 3, 1);
        sumsOfChildren(x, 3, 4, 5);
        x.move(0, 4, 2);
        x.move(0, 4, 1);
        sumsOfChildren(x, 3, 4, 5);
        x.move(0, 6, 1);
        sumsOfChildren(x, 3, 4, 5, 6);
        x.goTo(0, 2);
        sumsOfChildren(x);
        int late = x.addMember(0, 0);
        x.move(0, 5, late);
        x.move(0, 4, late);
        x.goTo(0, late);
        sumsOfChildren(x, 4, 5);
        Stores.put(x, 8, x.addMember(0, late));
        x.goTo(0, late);
        sumsOfChildren(x, 4, 5, 8);
    }

    private static void sumsOfChildren(EbbTable x, int... due) {
        Check.due("children of " + x.pointOf(0), due.length, x.children(0));
        for (int child = 0; child < due.length; child++) {
            Check.due("child " + child + " of " + x.pointOf(0), due[child], x.sumOf(0, child));
        }
    }

    private static void aMemberIsBeneathItself() {
        Doc.says(Doc.TERMS, "if that is it itself, or its parent is beneath that");
        EbbTable x = chain(3, 3, 3);
        x.addMember(0, 2);
        x.add(5);
        for (int above = 3; above >= 0; above--) {
            x.goTo(0, above);
            Check.due("the leaf is beneath " + above, 1, x.count());
            x.leaveOut(0, above, true);
            Check.due("also beneath what is left out: " + above, 0, x.count());
            x.leaveOut(0, above, false);
        }
        x.goTo(0, 4);
        Check.due("not beneath its sibling", 0, x.count());
        x.leaveOut(0, 4, true);
        x.goTo(0, 0);
        Check.due("nor is it left out with it", 1, x.count());
    }

    private static void membersOfALevelAreInTheOrderOfAWalk() {
        Doc.says(Doc.TERMS, "is that of a walk through the tree");
        EbbTable x = Stores.grow(Stores.withLevels(3), 0, 0, 0, 2, 1, 3, 4, 3, 2, 8, 4);
        membersAre(x, 0, 0);
        membersAre(x, 1, 1, 2);
        membersAre(x, 2, 4, 3, 8);
        membersAre(x, 3, 6, 10, 5, 7, 9);
        x.move(0, 4, 2);
        membersAre(x, 2, 3, 4, 8);
        membersAre(x, 3, 5, 7, 6, 10, 9);
        x.move(0, 8, 1);
        membersAre(x, 2, 8, 3, 4);
        membersAre(x, 3, 9, 5, 7, 6, 10);
        int late = x.addMember(0, 0);
        x.move(0, 3, late);
        membersAre(x, 1, 1, 2, late);
        membersAre(x, 2, 8, 4, 3);
        membersAre(x, 3, 9, 6, 10, 5, 7);
        x.move(0, 10, 8);
        x.move(0, 5, 8);
        membersAre(x, 3, 5, 9, 10, 6, 7);
    }

    private static void membersAre(EbbTable x, int level, int... due) {
        for (int place = 0; place < due.length; place++) {
            Check.due("level " + level + " place " + place, due[place], x.memberAt(0, level, place));
        }
        Check.refused("level " + level + " has no more", Twins.INDEX, x, () -> x.memberAt(0, level, due.length));
    }

    // ---- 2. facts and the point

    private static void thePointIsAtTheRootsAtFirst() {
        Doc.says(Doc.TERMS, "The POINT has a member of each dimension");
        EbbTable x = Stores.wide(2);
        Check.due("at the root at first", 0, x.pointOf(0));
        x.goTo(0, 2);
        for (int d = 1; d < 4; d++) {
            x.addDimension(2);
            Check.due("at the root of a later one: " + d, 0, x.pointOf(d));
            Check.due("where it was in the first: " + d, 2, x.pointOf(0));
        }
    }

    private static void atMost80Facts() {
        Doc.says(Doc.TERMS, "at most 80 facts, numbered from 0");
        EbbTable x = facts(79);
        Check.due("79 facts", 79, x.facts());
        Check.due("the last that has room", 79, x.add(7));
        Check.due("80 facts", 80, x.facts());
        Check.due("the fact 79", 7, x.drop(79));
        Check.due("the fact 0", 0, x.drop(0));
        Twins.refused("a fact too many", Twins.STATE, () -> facts(80), y -> y.add(0));
        Twins.refused("a fact too many in a full store", Twins.STATE, TermsTest::fullAtLeaves, y -> y.add(0));
    }

    /** The values 0, 1, 2, .. at one leaf. */
    private static EbbTable facts(int number) {
        EbbTable x = Stores.wide(1);
        x.goTo(0, 1);
        for (int fact = 0; fact < number; fact++) {
            x.add(fact);
        }
        return x;
    }

    private static EbbTable fullAtLeaves() {
        EbbTable x = Stores.full();
        Stores.goTo(x, 23, 23, 23, 23);
        return x;
    }

    private static void beneathThePointInEachDimension() {
        Doc.says(Doc.TERMS, "if in each dimension its leaf is beneath the member of the POINT");
        for (int d = 0; d < 4; d++) {
            EbbTable x = fourByTwo();
            Stores.put(x, 5, 1, 1, 1, 1);
            Check.due("beneath the point in all four", 1, x.count());
            x.goTo(d, 2);
            Check.due("not in dimension " + d, 0, x.count());
            x.goTo(d, 0);
            Check.due("beneath the root of " + d, 1, x.count());
        }
        Check.due("no dimension, no fact", 0, new EbbTable().count());
    }

    /** Four dimensions of two leaves each. */
    private static EbbTable fourByTwo() {
        EbbTable x = Stores.withLevels(1, 1, 1, 1);
        for (int d = 0; d < 4; d++) {
            Stores.grow(x, d, 0, 0);
        }
        return x;
    }

    private static void noneIsLeftOutAtFirst() {
        Doc.says(Doc.TERMS, "Members can be left out (none, at first)");
        EbbTable x = Stores.small();
        for (int d = 0; d < 2; d++) {
            for (int m = 0; m < x.members(d); m++) {
                Check.due("not at first: " + d + "." + m, false, x.leaveOut(d, m, true));
                Check.due("then it is: " + d + "." + m, true, x.leaveOut(d, m, true));
            }
        }
        Check.due("a new member is not", false, x.leaveOut(0, x.addMember(0, 1), false));
    }

    private static void aFactCountsIfNoneAboveItIsLeftOut() {
        Doc.says(Doc.TERMS, "if in no dimension its leaf is beneath a member that is left out");
        for (int d = 0; d < 4; d++) {
            for (int out = 0; out < 3; out++) {
                EbbTable x = fourByTwo();
                Stores.put(x, 5, 1, 1, 1, 1);
                x.leaveOut(d, out, true);
                Check.due(out + " of " + d + " is left out", out == 2 ? 1 : 0, x.count());
                Check.due("the fact is there", 1, x.facts());
            }
        }
    }

    private static void whatIsOfAllFacts() {
        Doc.says(Doc.TERMS, "facts(), views and what they cost (section 4) are of all facts");
        EbbTable x = Stores.small();
        Stores.setLevels(x, 2, 1);
        x.setAxes(0, 1, 1, 1);
        x.leaveOut(0, 0, true);
        Stores.goTo(x, 4, 1);
        Check.due("facts", 5, x.facts());
        Check.due("cells", 4, x.cellCount());
        Check.due("cost", 5, x.cost());
        Check.due("gain", 6, x.gain());
        Check.due("rows of a view", 4, x.rowsOf(x.keep()));
        Check.due("rows of a refreshed view", 4, x.refresh(0));
        Stores.goTo(x, 0, 0);
        for (int number : new int[] {x.count(), x.sum(), x.least(), x.greatest(), x.sumOf(0, 0), x.running(0, 1),
            x.share(0, 0), x.cell(0, 0), x.cell(1, 1)}) {
            Check.due("what is of those that count", 0, number);
        }
        Check.due("their mean", 0.0, x.mean());
    }

    // ---- 3. tables

    private static void rowsAndColumnsAreOfTheirOwnDimensions() {
        Doc.says(Doc.TERMS, "A table has two axes");
        EbbTable x = Stores.small();
        Check.due("leaves of 0", 3, x.setAxes(0, 2, 1, 0));
        Check.due("by the root of 1", 1, x.columns());
        Check.due("the root of 0", 1, x.setAxes(0, 0, 1, 1));
        Check.due("by the leaves of 1", 3, x.columns());
        Check.due("the other way round", 3, x.setAxes(1, 1, 0, 1));
        Check.due("by the level 1 of 0", 2, x.columns());
    }

    private static void linesAreBeneathThePoint() {
        Doc.says(Doc.TERMS, "Its rows are the members of this level that are beneath the member of the POINT");
        EbbTable x = Stores.small();
        int[][] points = {{0, 1, 2, 3}, {1, 0, 1, 2}, {2, 0, 1, 1}, {3, 0, 0, 1}};
        for (int[] due : points) {
            x.goTo(0, due[0]);
            for (int level = 0; level <= 2; level++) {
                String what = "of the level " + level + " beneath " + due[0];
                Check.due("rows " + what, due[1 + level], x.setAxes(0, level, 1, 1));
                x.setAxes(1, 1, 0, level);
                Check.due("columns " + what, due[1 + level], x.columns());
            }
        }
        x.goTo(0, 1);
        x.setAxes(0, 2, 1, 1);
        Check.due("the first row", 3, x.rowMember(0));
        Check.due("the second row", 5, x.rowMember(1));
        x.setAxes(1, 1, 0, 2);
        Check.due("the first column", 3, x.columnMember(0));
        Check.due("the second column", 5, x.columnMember(1));
    }

    private static void whatACellIsOf() {
        Doc.says(Doc.TERMS, "A cell is of the facts that COUNT, are beneath the POINT");
        EbbTable x = Stores.withLevels(1, 1, 1);
        for (int d = 0; d < 3; d++) {
            Stores.grow(x, d, 0, 0);
        }
        Stores.put(x, 1, 1, 1, 1);
        Stores.put(x, 10, 1, 1, 2);
        Stores.put(x, 100, 1, 2, 1);
        Stores.put(x, 1000, 2, 1, 1);
        Stores.goTo(x, 0, 0, 0);
        x.setAxes(0, 1, 1, 1);
        Check.due("beneath both lines", 11, x.cell(0, 0));
        Check.due("beneath the other column", 100, x.cell(0, 1));
        Check.due("beneath the other row", 1000, x.cell(1, 0));
        Check.due("no fact", 0, x.cell(1, 1));
        x.goTo(2, 1);
        Check.due("beneath the point in the third", 1, x.cell(0, 0));
        x.goTo(2, 0);
        x.leaveOut(2, 1, true);
        Check.due("those that count", 10, x.cell(0, 0));
        EbbTable deep = twoBranches();
        for (int level = 0; level <= 3; level++) {
            deep.setAxes(0, level, 1, 1 - level % 2);
            Check.due("of rows on the level " + level, level == 0 ? 7 : 3, deep.cell(0, 0));
        }
    }

    private static void bareLines() {
        Doc.says(Doc.TERMS, "If bare lines are left out, rows without any such fact");
        EbbTable x = Stores.withoutFacts();
        x.setBare(true);
        Check.due("without facts no row", 0, x.setAxes(0, 2, 1, 1));
        Check.due("nor column", 0, x.columns());
        Stores.put(x, 0, 5, 2);
        Stores.put(x, 7, 4, 3);
        Stores.put(x, -7, 4, 3);
        Stores.goTo(x, 0, 0);
        Check.due("a fact of 0, or facts that make 0, are facts", 2, x.rows());
        Check.due("also in columns", 2, x.columns());
        Check.due("the first of such rows", 5, x.rowMember(0));
        Check.due("the last of such columns", 3, x.columnMember(1));
        Check.due("and cells without any stay between", 0, x.cell(0, 1));
        x.leaveOut(1, 3, true);
        Check.due("a fact that does not count makes no row", 1, x.rows());
        Check.due("nor a column", 1, x.columns());
        Stores.goTo(x, 4, 0);
        Check.due("nor does one elsewhere", 0, x.rows() + x.columns());
        linesWithoutCells();
    }

    private static void linesWithoutCells() {
        EbbTable x = Stores.small();
        x.goTo(0, 1);
        Check.due("two rows", 2, x.setAxes(0, 2, 1, 0));
        x.goTo(1, 1);
        Check.due("rows without cells are there", 2, x.rows());
        Check.due("without columns", 0, x.columns());
        x.setBare(true);
        Check.due("but none, if bare ones are left out", 0, x.rows());
        x.setAxes(1, 0, 0, 2);
        Check.due("columns likewise", 0, x.columns());
        x.setBare(false);
        Check.due("are there otherwise", 2, x.columns());
        Check.due("without rows", 0, x.rows());
    }

    // ---- 4. views

    private static void levelsAreZeroAtFirst() {
        Doc.says(Doc.TERMS, "LEVELS are one level of each dimension (0 in each, at first");
        EbbTable x = Stores.withLevels(3);
        Check.due("0 at first", 0, x.setLevel(0, 3));
        for (int d = 1; d < 4; d++) {
            x.addDimension(3);
            Check.due("0 of a later one", 0, x.setLevel(d, d - 1));
        }
        int[] due = {3, 0, 1, 2};
        for (int d = 0; d < 4; d++) {
            Check.due("each has its own: " + d, due[d], x.setLevel(d, 0));
        }
    }

    private static void cellsAreDifferentRowsOfMembers() {
        Doc.says(Doc.TERMS, "The cells of some LEVELS are all different rows of members");
        Check.due("without dimensions none", 0, new EbbTable().cellCount());
        Check.due("without facts none", 0, Stores.withoutFacts().cellCount());
        EbbTable one = facts(80);
        Check.due("80 facts in one at the root", 1, one.cellCount());
        one.setLevel(0, 1);
        Check.due("80 facts in one at the leaf", 1, one.cellCount());
        EbbTable deep = twoBranches();
        for (int level = 0; level <= 3; level++) {
            deep.setLevel(0, level);
            Check.due("beneath two branches, on the level " + level, level == 0 ? 1 : 2, deep.cellCount());
        }
        EbbTable all = eightyCells();
        int[][] due = {{0, 0, 1}, {1, 0, 4}, {0, 1, 20}, {1, 1, 80}};
        for (int[] each : due) {
            Stores.setLevels(all, each[0], each[1]);
            Check.due("80 facts, LEVELS " + each[0] + ", " + each[1], each[2], all.cellCount());
        }
    }

    /** A dimension of three levels, in it two branches from the root to a leaf with a fact; another of one leaf. */
    private static EbbTable twoBranches() {
        EbbTable x = Stores.grow(Stores.withLevels(3, 1), 0, 0, 0, 1, 2, 3, 4);
        x.addMember(1, 0);
        Stores.put(x, 3, 5, 1);
        Stores.put(x, 4, 6, 1);
        Stores.goTo(x, 0, 0);
        return x;
    }

    /** 80 facts, each at leaves of its own: 4 in dimension 0, 20 in dimension 1. */
    private static EbbTable eightyCells() {
        EbbTable x = Stores.withLevels(1, 1);
        Stores.grow(x, 0, 0, 0, 0, 0);
        for (int leaf = 1; leaf <= 20; leaf++) {
            x.addMember(1, 0);
        }
        for (int leaf = 1; leaf <= 20; leaf++) {
            x.goTo(1, leaf);
            for (int other = 1; other <= 4; other++) {
                x.goTo(0, other);
                x.add(1);
            }
        }
        return x;
    }

    private static void atMostSixViews() {
        Doc.says(Doc.TERMS, "At most 6 views, numbered from 0");
        EbbTable x = Stores.small();
        for (int view = 0; view < 6; view++) {
            Stores.setLevels(x, view % 3, view / 3);
            Check.due("view " + view, view, x.keep());
        }
        Check.due("six views", 6, x.views());
        int[] due = {1, 2, 3, 3, 4, 4};
        for (int view = 0; view < 6; view++) {
            Check.due("rows as it was kept: " + view, due[view], x.rowsOf(view));
        }
        x.drop(2);
        int[] later = {1, 1, 2, 3, 3, 3};
        for (int view = 0; view < 6; view++) {
            Check.due("rows till it is refreshed: " + view, due[view], x.rowsOf(view));
            Check.due("rows of its own LEVELS: " + view, later[view], x.refresh(view));
            Check.due("rows from then on: " + view, later[view], x.rowsOf(view));
        }
        Twins.refused("a seventh view", Twins.STATE, Stores::full, EbbTable::keep);
    }

    private static void staleFromTheNextChangeOn() {
        Doc.says(Doc.TERMS, "It is STALE from the next time on");
        makesStale("a fact", x -> {
            Stores.goTo(x, 3, 1);
            x.add(0);
        });
        makesStale("the last fact dropped", x -> x.drop(4));
        makesStale("the first fact dropped", x -> x.drop(0));
        makesStale("a leaf moved", x -> x.move(0, 5, 2));
        makesStale("a leaf moved to the same parent", x -> x.move(1, 3, 0));
        makesStale("a member moved to the same parent", x -> x.move(0, 2, 0));
        leavesFresh("nothing", x -> { });
        leavesFresh("a member", x -> x.addMember(0, 1));
        leavesFresh("leaving out", x -> x.leaveOut(0, 0, true));
        leavesFresh("the point", x -> Stores.goTo(x, 3, 1));
        leavesFresh("drilling", x -> x.drill(0));
        leavesFresh("axes", x -> x.setAxes(0, 1, 1, 1));
        leavesFresh("LEVELS", x -> Stores.setLevels(x, 0, 1));
        leavesFresh("the advice", EbbTable::advise);
        leavesFresh("another view", EbbTable::keep);
        leavesFresh("another view refreshed", x -> x.refresh(1));
        leavesFresh("another view dropped", x -> x.dropView(2));
    }

    private static EbbTable withThreeViews() {
        EbbTable x = Stores.small();
        Stores.setLevels(x, 1, 1);
        for (int view = 0; view < 3; view++) {
            x.keep();
        }
        return x;
    }

    private static void makesStale(String what, Consumer<EbbTable> change) {
        EbbTable x = withThreeViews();
        change.accept(x);
        for (int view = 0; view < 3; view++) {
            Check.due("stale by " + what, true, x.isStale(view));
        }
        x.refresh(1);
        Check.due("refreshed after " + what, false, x.isStale(1));
        Check.due("the others are not, after " + what, true, x.isStale(0) && x.isStale(2));
        Check.due("nor is one kept after " + what, false, x.isStale(x.keep()));
    }

    private static void leavesFresh(String what, Consumer<EbbTable> change) {
        EbbTable x = withThreeViews();
        change.accept(x);
        Check.due("not stale by " + what, false, x.isStale(0) || x.isStale(1));
        x.drop(0);
        Check.due("stale by the drop behind " + what, true, x.isStale(0) && x.isStale(1));
    }

    private static void aDimensionDropsAllViews() {
        Doc.says(Doc.TERMS, "Adding a dimension drops all views");
        for (int number = 0; number <= 6; number++) {
            EbbTable x = Stores.small();
            for (int view = 0; view < number; view++) {
                x.keep();
            }
            x.addDimension(1);
            Check.due("of " + number + " views", 0, x.views());
            Check.due("the first after " + number, 0, x.keep());
        }
    }

    private static void whatCanAnswerAQuestion() {
        Doc.says(Doc.TERMS, "and has in each dimension that level, or a greater one, at the cost of its rows");
        for (int d = 0; d < 4; d++) {
            EbbTable x = withViewOfLevelTwo();
            Check.due("the same level in each", 0, x.answeredBy());
            x.setLevel(d, 1);
            Check.due("a smaller one in " + d, 0, x.answeredBy());
            x.setLevel(d, 3);
            Check.due("a greater one in " + d, -1, x.answeredBy());
            x.setLevel((d + 1) % 4, 1);
            Check.due("a smaller one beside it", -1, x.answeredBy());
            x.setLevel(d, 0);
            Check.due("the level 0 in " + d, 0, x.answeredBy());
            Check.due("at the cost of its rows", 1, x.cost());
            x.move(0, 1, 0);
            Check.due("not if it is stale", -1, x.answeredBy());
            Check.due("at the cost of all facts", 3, x.cost());
        }
    }

    /** Four dimensions with one leaf each, three facts there, a view of the level 2 in each, LEVELS the same. */
    private static EbbTable withViewOfLevelTwo() {
        EbbTable x = Stores.withLevels(3, 3, 3, 3);
        for (int d = 0; d < 4; d++) {
            Stores.grow(x, d, 0, 1, 2);
        }
        Stores.put(x, 1, 3, 3, 3, 3);
        x.add(2);
        x.add(3);
        Stores.setLevels(x, 2, 2, 2, 2);
        x.keep();
        return x;
    }

    private static void theCostIsTheLeast() {
        Doc.says(Doc.TERMS, "Its cost is the least of these; it is answered by all facts, if no such view costs less");
        EbbTable x = Stores.row(1, 2, 3);
        x.setLevel(0, 1);
        x.keep();
        Check.due("as many rows as facts: all facts", -1, x.answeredBy());
        Check.due("they cost", 3, x.cost());
        Stores.put(x, 4, 3);
        x.refresh(0);
        Check.due("one row less than facts: the view", 0, x.answeredBy());
        Check.due("it costs", 3, x.cost());
        x.keep();
        Check.due("of equal ones the first", 0, x.answeredBy());
        x.setLevel(0, 0);
        x.keep();
        x.keep();
        Check.due("the cheaper one, though behind", 2, x.answeredBy());
        Check.due("it costs one", 1, x.cost());
        x.dropView(2);
        Check.due("the other of the cheap ones", 2, x.answeredBy());
        EbbTable none = Stores.withoutFacts();
        none.keep();
        Check.due("no fact: all facts", -1, none.answeredBy());
        Check.due("they cost nothing", 0, none.cost());
    }

    private static void theGainIsOfWhatIsLess() {
        Doc.says(Doc.TERMS, "The GAIN of some LEVELS is the sum");
        EbbTable x = Stores.row(1, 2, 3);
        x.setLevel(0, 1);
        Check.due("as many cells as facts", 0, x.gain());
        x.setLevel(0, 0);
        Check.due("1 of 3 for one question", 2, x.gain());
        Stores.put(x, 4, 3);
        x.setLevel(0, 1);
        Check.due("3 of 4 for two questions", 2, x.gain());
        x.keep();
        Check.due("no less than the view that is there", 0, x.gain());
        x.setLevel(0, 0);
        Check.due("1 of 3 by the view", 2, x.gain());
        x.keep();
        Check.due("1 of 1 by the view", 0, x.gain());
        x.dropView(0);
        x.setLevel(0, 1);
        Check.due("what costs more takes nothing away: 3 of 4 and of 1", 1, x.gain());
        x.drop(0);
        Check.due("two cells of three facts, stale views", 2, x.gain());
    }

    private static void theAdviceIsTheSmallestOfTheGreatest() {
        Doc.says(Doc.TERMS, "The advice is the LEVELS with the greatest GAIN");
        EbbTable x = fourByTwo();
        Stores.put(x, 1, 1, 1, 1, 1);
        x.add(2);
        Check.due("one cell of two facts, for all 16 questions", 16, x.advise());
        levelsAre("only the greatest ones answer all", x, 1, 1, 1, 1);
        EbbTable none = fourByTwo();
        Stores.setLevels(none, 1, 0, 1, 1);
        Check.due("without facts", 0, none.advise());
        levelsAre("the smallest of all", none, 0, 0, 0, 0);
        for (int d = 0; d < 4; d++) {
            EbbTable y = fourByTwo();
            for (int pair = 0; pair < 2; pair++) {
                int[] leaves = {1, 1, 1, 1};
                leaves[d] = 1 + pair;
                Stores.put(y, 1, leaves);
                y.add(2);
            }
            Check.due("two cells save 2 in 16, one saves 3 in 8", 32, y.advise());
            levelsAre("different leaves in " + d, y, 1, 1, 1, 1);
        }
        ofSeveralTheSmallestInDimensionZero();
    }

    /**
     * Three facts at (1, 1), (1, 2), (2, 1): LEVELS of one dimension save 1 in two questions, those of none
     * save 2 in one, those of both nothing.
     */
    private static void ofSeveralTheSmallestInDimensionZero() {
        EbbTable x = Stores.withLevels(1, 1);
        Stores.grow(x, 0, 0, 0);
        Stores.grow(x, 1, 0, 0);
        Stores.put(x, 1, 1, 1);
        Stores.put(x, 1, 1, 2);
        Stores.put(x, 1, 2, 1);
        Check.due("2 by three of them", 2, x.advise());
        levelsAre("of three", x, 0, 0);
        x.keep();
        Check.due("then 1 by two of them", 1, x.advise());
        levelsAre("of two: the smaller in 0", x, 0, 1);
        x.keep();
        Check.due("then 1 by one of them", 1, x.advise());
        levelsAre("of one", x, 1, 0);
        x.keep();
        Check.due("then nothing", 0, x.advise());
        levelsAre("of all", x, 0, 0);
    }

    private static void levelsAre(String what, EbbTable x, int... due) {
        for (int d = 0; d < due.length; d++) {
            Check.due(what + ": in " + d, due[d], x.setLevel(d, due[d]));
        }
    }

    // ---- what is refused

    private static void whatThrowsChangesNothing() {
        Doc.says(Doc.TERMS, "A method that throws an exception changes nothing");
        unchangedBy("addDimension", Twins.ARGUMENT, x -> x.addDimension(4));
        unchangedBy("addMember", Twins.INDEX, x -> x.addMember(0, 6));
        unchangedBy("addMember beneath a leaf", Twins.STATE, x -> x.addMember(0, 3));
        unchangedBy("move", Twins.INDEX, x -> x.move(0, 5, 6));
        unchangedBy("move to another level", Twins.ARGUMENT, x -> x.move(0, 5, 0));
        unchangedBy("leaveOut", Twins.INDEX, x -> x.leaveOut(0, 6, true));
        unchangedBy("goTo", Twins.INDEX, x -> x.goTo(0, 6));
        unchangedBy("goUp", Twins.INDEX, x -> x.goUp(2));
        unchangedBy("add", Twins.ARGUMENT, x -> x.add(10001));
        unchangedBy("add at no leaf", Twins.STATE, x -> x.add(1));
        unchangedBy("drop", Twins.INDEX, x -> x.drop(4));
        unchangedBy("drill", Twins.INDEX, x -> x.drill(2));
        unchangedBy("setAxes", Twins.INDEX, x -> x.setAxes(1, 1, 0, 3));
        unchangedBy("setAxes of the same", Twins.ARGUMENT, x -> x.setAxes(1, 1, 1, 0));
        unchangedBy("setLevel", Twins.INDEX, x -> x.setLevel(1, 2));
        unchangedBy("dropView", Twins.INDEX, x -> x.dropView(2));
        unchangedBy("refresh", Twins.INDEX, x -> x.refresh(2));
        Twins.refused("addDimension to a full store", Twins.STATE, Stores::crammed, x -> x.addDimension(1));
        Twins.refused("addDimension of no levels", Twins.ARGUMENT, Stores::crammed, x -> x.addDimension(0));
        Twins.refused("addMember to a full store", Twins.STATE, Stores::crammed, x -> x.addMember(3, 0));
        Twins.refused("add to a full store", Twins.STATE, TermsTest::fullAtLeaves, x -> x.add(1));
        Twins.refused("keep in a full store", Twins.STATE, Stores::crammed, EbbTable::keep);
        Twins.refused("setAxes that are the first", Twins.ARGUMENT, Stores::small, x -> x.setAxes(0, 1, 0, 1));
    }

    private static void unchangedBy(String what, Class<?> want, Consumer<EbbTable> call) {
        Twins.refused(what, want, Stores::furnished, call);
    }

    private static void theExceptionNamedFirstIsThrown() {
        Doc.says(Doc.TERMS, "If several exceptions apply");
        Twins.refused("addDimension", Twins.ARGUMENT, Stores::full, x -> x.addDimension(0));
        Twins.refused("addMember", Twins.INDEX, Stores::full, x -> x.addMember(0, 24));
        unchangedBy("move of the root", Twins.INDEX, x -> x.move(0, 0, 6));
        unchangedBy("move to another level", Twins.INDEX, x -> x.move(2, 3, 0));
        Twins.refused("add", Twins.ARGUMENT, TermsTest::fullAtLeaves, x -> x.add(10001));
        Twins.refused("add without dimensions", Twins.ARGUMENT, EbbTable::new, x -> x.add(-10001));
        unchangedBy("fewest", Twins.INDEX, x -> x.fewest(2, 0));
        unchangedBy("setAxes", Twins.INDEX, x -> x.setAxes(1, 2, 1, 1));
        unchangedBy("setAxes of what is not there", Twins.INDEX, x -> x.setAxes(2, 0, 2, 0));
        Twins.refused("rowMember", Twins.STATE, Stores::small, x -> x.rowMember(-1));
        Twins.refused("columnMember", Twins.STATE, Stores::small, x -> x.columnMember(-1));
        Twins.refused("cell", Twins.STATE, Stores::small, x -> x.cell(-1, 24));
        Twins.refused("peak", Twins.STATE, Stores::small, x -> x.peak(24));
    }

    // ---- what only asks

    private static void questionsChangeNothing() {
        asks("dimensions", EbbTable::dimensions);
        asks("members", x -> x.members(0));
        asks("parentOf", x -> x.parentOf(0, 2));
        asks("levelOf", x -> x.levelOf(0, 2));
        asks("memberAt", x -> x.memberAt(0, 2, 1));
        asks("pointOf", x -> x.pointOf(0));
        asks("facts", EbbTable::facts);
        asks("count", EbbTable::count);
        asks("sum", EbbTable::sum);
        asks("least", EbbTable::least);
        asks("greatest", EbbTable::greatest);
        asks("mean", EbbTable::mean);
        asks("children", x -> x.children(0));
        asks("sumOf", x -> x.sumOf(0, 0));
        asks("ranked", x -> x.ranked(0, 0));
        asks("running", x -> x.running(0, 0));
        asks("share", x -> x.share(0, 0));
        asks("fewest", x -> x.fewest(0, 500));
        asks("cellCount", EbbTable::cellCount);
        asks("views", EbbTable::views);
        asks("cost", EbbTable::cost);
        asks("answeredBy", EbbTable::answeredBy);
        asks("gain", EbbTable::gain);
        asks("digest", EbbTable::digest);
    }

    /** Of a store with axes and views, and of one with neither. */
    private static void asks(String what, Consumer<EbbTable> call) {
        Twins.onlyAsks(what, Stores::furnished, call);
        Twins.onlyAsks(what + " without axes", TermsTest::bareWithoutAxes, call);
    }

    private static EbbTable bareWithoutAxes() {
        EbbTable x = Stores.small();
        x.setBare(true);
        x.leaveOut(0, 2, true);
        Stores.setLevels(x, 1, 1);
        return x;
    }

    private static void questionsOfATableChangeNothing() {
        Twins.onlyAsks("rows", Stores::furnished, EbbTable::rows);
        Twins.onlyAsks("columns", Stores::furnished, EbbTable::columns);
        Twins.onlyAsks("rowMember", Stores::furnished, x -> x.rowMember(0));
        Twins.onlyAsks("columnMember", Stores::furnished, x -> x.columnMember(1));
        Twins.onlyAsks("cell", Stores::furnished, x -> x.cell(0, 1));
        Twins.onlyAsks("peak", Stores::furnished, x -> x.peak(0));
        Twins.onlyAsks("rowsOf", Stores::furnished, x -> x.rowsOf(0));
        Twins.onlyAsks("isStale of a STALE one", Stores::furnished, x -> x.isStale(0));
        Twins.onlyAsks("isStale of another", Stores::furnished, x -> x.isStale(1));
    }

    private static void whatHasNoFurtherToGoChangesNothing() {
        Twins.onlyAsks("goUp at the root", Stores::furnished, x -> x.goUp(1));
        Twins.onlyAsks("drill at a leaf", TermsTest::furnishedAtALeaf, x -> x.drill(0));
    }

    private static EbbTable furnishedAtALeaf() {
        EbbTable x = Stores.furnished();
        x.goTo(0, 3);
        return x;
    }
}
