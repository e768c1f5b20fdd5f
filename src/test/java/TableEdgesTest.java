import java.util.function.Consumer;

/** A test for each sentence of the promises 29 to 36, at the bounds that it names. */
public final class TableEdgesTest {
    private TableEdgesTest() {
    }

    public static void main(String[] args) {
        p29();
        p30();
        p31();
        p32();
        p33();
        p34();
        p35();
        p36();
        Doc.isTested(29, 36);
        Check.end("TableEdgesTest");
    }

    /** The small store with a table of three rows (leaves of 0) and three columns (leaves of 1). */
    private static EbbTable threeByThree() {
        EbbTable x = Stores.small();
        x.setAxes(0, 2, 1, 1);
        return x;
    }

    /** The same without bare lines, and with one fact that counts: at row 5, column 3. */
    private static EbbTable oneByOne() {
        EbbTable x = threeByThree();
        x.setBare(true);
        x.leaveOut(0, 3, true);
        x.leaveOut(0, 4, true);
        return x;
    }

    /** The same, and none counts. */
    private static EbbTable noneByNone() {
        EbbTable x = oneByOne();
        x.leaveOut(1, 3, true);
        return x;
    }

    /** Two rows, and no column: the POINT is deeper than their level. */
    private static EbbTable twoByNone() {
        EbbTable x = Stores.small();
        x.setAxes(0, 1, 1, 0);
        x.goTo(1, 2);
        return x;
    }

    /** No row, and two columns. */
    private static EbbTable noneByTwo() {
        EbbTable x = Stores.small();
        x.setAxes(1, 0, 0, 1);
        x.goTo(1, 2);
        return x;
    }

    private static void needsAxes(String what, Consumer<EbbTable> call) {
        Twins.refused(what + " of a new store", Twins.STATE, EbbTable::new, call);
        Twins.refused(what + " without axes", Twins.STATE, Stores::small, call);
        Twins.refused(what + " of axes that were refused", Twins.STATE, TableEdgesTest::afterRefusedAxes, call);
        Twins.refused(what + " of axes that are gone", Twins.STATE, TableEdgesTest::afterAnotherDimension, call);
        Twins.accepted(what + " of axes", TableEdgesTest::threeByThree, call);
    }

    private static EbbTable afterRefusedAxes() {
        EbbTable x = Stores.small();
        Check.refused("the same axes", Twins.ARGUMENT, x, () -> x.setAxes(1, 1, 1, 1));
        Check.refused("no such axes", Twins.INDEX, x, () -> x.setAxes(0, 1, 1, 2));
        return x;
    }

    private static EbbTable afterAnotherDimension() {
        EbbTable x = threeByThree();
        x.addDimension(1);
        return x;
    }

    // ---- 29, 30. setAxes, setBare

    private static void p29() {
        axesStay();
        Doc.says(29, "Returns how many rows there are");
        EbbTable x = Stores.full();
        Check.due("p29 as the point is at a leaf", 1, x.setAxes(0, 3, 1, 3));
        x.goTo(0, 0);
        Check.due("p29 21 leaves", 21, x.setAxes(0, 3, 1, 3));
        Check.due("p29 23 rows", 23, widest().setAxes(0, 1, 1, 1));
        EbbTable bare = oneByOne();
        Check.due("p29 less bare ones", 1, bare.setAxes(0, 2, 1, 1));
        Check.due("p29 none", 0, noneByNone().setAxes(0, 2, 1, 1));
        Check.due("p29 none beneath the point", 0, noneByTwo().setAxes(1, 0, 0, 1));
        Doc.says(29, "Throws `IndexOutOfBoundsException` if there is no such dimension, or level of it");
        Twins.index("p29 row level of two", 3, Stores::furnished, (y, l) -> y.setAxes(0, l, 1, 0));
        Twins.index("p29 row level of one", 2, Stores::furnished, (y, l) -> y.setAxes(1, l, 0, 0));
        Twins.index("p29 column level of two", 3, Stores::furnished, (y, l) -> y.setAxes(1, 1, 0, l));
        Twins.index("p29 column level of one", 2, Stores::furnished, (y, l) -> y.setAxes(0, 1, 1, l));
        Twins.index("p29 level of three", 4, Stores::full, (y, l) -> y.setAxes(3, l, 2, l));
        for (int none : new int[] {-1, 2, 3, 4, Integer.MIN_VALUE, Integer.MAX_VALUE}) {
            Twins.refused("p29 rows " + none, Twins.INDEX, Stores::furnished, y -> y.setAxes(none, 0, 1, 0));
            Twins.refused("p29 columns " + none, Twins.INDEX, Stores::furnished, y -> y.setAxes(0, 0, none, 0));
            Twins.refused("p29 both " + none, Twins.INDEX, Stores::furnished, y -> y.setAxes(none, 0, none, 0));
        }
        bothDimensionsAreTheSame();
    }

    private static EbbTable widest() {
        EbbTable x = Stores.withLevels(1, 1);
        for (int leaf = 1; leaf < 24; leaf++) {
            x.addMember(0, 0);
            x.addMember(1, 0);
        }
        return x;
    }

    private static void bothDimensionsAreTheSame() {
        Doc.says(29, "Throws `IllegalArgumentException` if both dimensions are the same");
        for (int d = 0; d < 4; d++) {
            for (int other = 0; other < 4; other++) {
                int rows = d;
                int columns = other;
                String what = "p29 " + rows + " by " + columns;
                if (rows == columns) {
                    Twins.refused(what, Twins.ARGUMENT, Stores::full, x -> x.setAxes(rows, 3, columns, 2));
                } else {
                    Twins.accepted(what, Stores::full, x -> x.setAxes(rows, 3, columns, 2));
                }
            }
        }
        Twins.refused("p29 the same level too", Twins.ARGUMENT, Stores::furnished, x -> x.setAxes(0, 2, 0, 2));
        Twins.refused("p29 the same, no such level", Twins.INDEX, Stores::furnished, x -> x.setAxes(1, 2, 1, 0));
        Twins.refused("p29 the same, no column level", Twins.INDEX, Stores::furnished, x -> x.setAxes(1, 0, 1, -1));
    }

    private static void axesStay() {
        Doc.says(29, "Sets the axes; they stay till they are set anew, whatever the POINT has");
        EbbTable x = threeByThree();
        Stores.goTo(x, 4, 2);
        Check.due("p29 one row at a leaf", 1, x.rows());
        Check.due("p29 one column at a leaf", 1, x.columns());
        Stores.goTo(x, 0, 0);
        Check.due("p29 all rows again", 3, x.rows());
        Check.due("p29 all columns again", 3, x.columns());
        Check.refused("p29 a refused call", Twins.ARGUMENT, x, () -> x.setAxes(0, 1, 0, 1));
        Check.due("p29 the axes stay", 3, x.rows());
        x.setAxes(1, 0, 0, 1);
        Check.due("p29 set anew: rows", 1, x.rows());
        Check.due("p29 set anew: columns", 2, x.columns());
        EbbTable deep = noneByTwo();
        deep.goTo(1, 0);
        Check.due("p29 a row again, as the point is above", 1, deep.rows());
    }

    private static void p30() {
        Doc.says(30, "whether bare lines are left out from now on (not, at first)");
        Doc.says(30, "Returns whether they were");
        boolean before = false;
        EbbTable x = threeByThree();
        x.leaveOut(0, 3, true);
        for (boolean isOut : new boolean[] {false, true, true, false, false, true}) {
            Check.due("p30 whether they were", before, x.setBare(isOut));
            Check.due("p30 rows then", isOut ? 2 : 3, x.rows());
            Check.due("p30 columns then", isOut ? 2 : 3, x.columns());
            before = isOut;
        }
        Check.due("p30 ahead of axes", false, new EbbTable().setBare(true));
    }

    // ---- 31 to 34. rows, columns, and their members

    private static void p31() {
        Doc.says(31, "Returns how many rows there are");
        Check.due("p31 three", 3, threeByThree().rows());
        Check.due("p31 one", 1, oneByOne().rows());
        Check.due("p31 none", 0, noneByNone().rows());
        Check.due("p31 two without columns", 2, twoByNone().rows());
        Check.due("p31 none, two columns", 0, noneByTwo().rows());
        EbbTable x = widest();
        x.setAxes(0, 1, 1, 1);
        Check.due("p31 as many as can be", 23, x.rows());
        x.setBare(true);
        Check.due("p31 all bare", 0, x.rows());
        Doc.says(31, "Throws `IllegalStateException` if there are no axes");
        needsAxes("p31 rows", EbbTable::rows);
    }

    private static void p32() {
        Doc.says(32, "Returns how many columns there are");
        Check.due("p32 three", 3, threeByThree().columns());
        Check.due("p32 one", 1, oneByOne().columns());
        Check.due("p32 none", 0, noneByNone().columns());
        Check.due("p32 none, two rows", 0, twoByNone().columns());
        Check.due("p32 two without rows", 2, noneByTwo().columns());
        EbbTable x = widest();
        x.setAxes(0, 1, 1, 1);
        Check.due("p32 as many as can be", 23, x.columns());
        x.setBare(true);
        Check.due("p32 all bare", 0, x.columns());
        Doc.says(32, "Throws `IllegalStateException` if there are no axes");
        needsAxes("p32 columns", EbbTable::columns);
    }

    private static void p33() {
        Doc.says(33, "a row, from 0 on");
        Doc.says(33, "Returns its member");
        EbbTable x = threeByThree();
        Check.due("p33 the first", 3, x.rowMember(0));
        Check.due("p33 the last", 4, x.rowMember(2));
        Check.due("p33 the only one", 5, oneByOne().rowMember(0));
        EbbTable wide = widest();
        wide.setAxes(0, 1, 1, 1);
        Check.due("p33 the last of 23", 23, wide.rowMember(22));
        Doc.says(33, "Throws `IllegalStateException` if there are no axes");
        needsAxes("p33 rowMember", y -> y.rowMember(0));
        Twins.refused("p33 no axes, no row", Twins.STATE, Stores::small, y -> y.rowMember(-1));
        Doc.says(33, "Throws `IndexOutOfBoundsException` if there is no such row");
        Twins.index("p33 row of three", 3, TableEdgesTest::threeByThree, EbbTable::rowMember);
        Twins.index("p33 row of one", 1, TableEdgesTest::oneByOne, EbbTable::rowMember);
        Twins.index("p33 row of none", 0, TableEdgesTest::noneByNone, EbbTable::rowMember);
        Twins.index("p33 row without columns", 2, TableEdgesTest::twoByNone, EbbTable::rowMember);
        Twins.index("p33 row of none, two columns", 0, TableEdgesTest::noneByTwo, EbbTable::rowMember);
    }

    private static void p34() {
        Doc.says(34, "a column, from 0 on");
        Doc.says(34, "Returns its member");
        EbbTable x = threeByThree();
        Check.due("p34 the first", 1, x.columnMember(0));
        Check.due("p34 the last", 3, x.columnMember(2));
        Check.due("p34 the only one", 3, oneByOne().columnMember(0));
        EbbTable wide = widest();
        wide.setAxes(0, 1, 1, 1);
        Check.due("p34 the last of 23", 23, wide.columnMember(22));
        Doc.says(34, "Throws `IllegalStateException` if there are no axes");
        needsAxes("p34 columnMember", y -> y.columnMember(0));
        Twins.refused("p34 no axes, no column", Twins.STATE, Stores::small, y -> y.columnMember(-1));
        Doc.says(34, "Throws `IndexOutOfBoundsException` if there is no such column");
        Twins.index("p34 column of three", 3, TableEdgesTest::threeByThree, EbbTable::columnMember);
        Twins.index("p34 column of one", 1, TableEdgesTest::oneByOne, EbbTable::columnMember);
        Twins.index("p34 column of none", 0, TableEdgesTest::noneByNone, EbbTable::columnMember);
        Twins.index("p34 column of none, two rows", 0, TableEdgesTest::twoByNone, EbbTable::columnMember);
        Twins.index("p34 column without rows", 2, TableEdgesTest::noneByTwo, EbbTable::columnMember);
    }

    // ---- 35, 36. cell, peak

    private static void p35() {
        Doc.says(35, "Returns the sum of the values of the cell");
        EbbTable x = threeByThree();
        int[][] due = {{10, -4, 0}, {0, 0, 10}, {0, 6, 0}};
        for (int row = 0; row < 3; row++) {
            for (int column = 0; column < 3; column++) {
                Check.due("p35 cell " + row + ", " + column, due[row][column], x.cell(row, column));
            }
        }
        Check.due("p35 the only cell", 10, oneByOne().cell(0, 0));
        Check.due("p35 80 times the greatest", 800000, eightyInACell(10000).cell(22, 22));
        Check.due("p35 80 times the least", -800000, eightyInACell(-10000).cell(22, 22));
        Check.due("p35 beside it", 0, eightyInACell(-10000).cell(22, 21));
        Doc.says(35, "Throws `IllegalStateException` if there are no axes");
        needsAxes("p35 cell", y -> y.cell(0, 0));
        Twins.refused("p35 no axes, no row", Twins.STATE, Stores::small, y -> y.cell(-1, 0));
        Twins.refused("p35 no axes, no column", Twins.STATE, Stores::small, y -> y.cell(0, 24));
        Doc.says(35, "Throws `IndexOutOfBoundsException` if there is no such row, or column");
        Twins.index("p35 row of three", 3, TableEdgesTest::threeByThree, (y, r) -> y.cell(r, 0));
        Twins.index("p35 column of three", 3, TableEdgesTest::threeByThree, (y, c) -> y.cell(2, c));
        Twins.index("p35 row of one", 1, TableEdgesTest::oneByOne, (y, r) -> y.cell(r, 0));
        Twins.index("p35 column of one", 1, TableEdgesTest::oneByOne, (y, c) -> y.cell(0, c));
        Twins.index("p35 row of none", 0, TableEdgesTest::noneByNone, (y, r) -> y.cell(r, 0));
        Twins.index("p35 row without columns", 0, TableEdgesTest::twoByNone, (y, r) -> y.cell(r, 0));
        Twins.index("p35 column of none", 0, TableEdgesTest::twoByNone, (y, c) -> y.cell(0, c));
        Twins.index("p35 column without rows", 0, TableEdgesTest::noneByTwo, (y, c) -> y.cell(0, c));
    }

    /** 23 rows by 23 columns, all facts in the last cell. */
    private static EbbTable eightyInACell(int value) {
        EbbTable x = widest();
        Stores.goTo(x, 23, 23);
        for (int fact = 0; fact < 80; fact++) {
            x.add(value);
        }
        Stores.goTo(x, 0, 0);
        x.setAxes(0, 1, 1, 1);
        return x;
    }

    private static void p36() {
        Doc.says(36, "of its greatest cell, of several the first one; -1 without columns");
        Check.due("p36 the only one", 0, peakOf(7));
        Check.due("p36 the first", 0, peakOf(3, 2, 1));
        Check.due("p36 the last", 2, peakOf(1, 2, 3));
        Check.due("p36 of two the first", 1, peakOf(1, 5, 5));
        Check.due("p36 of all the first", 0, peakOf(4, 4, 4));
        Check.due("p36 of all less than 0 the first", 0, peakOf(-4, -4));
        Check.due("p36 the greatest less than 0", 1, peakOf(-10000, -9999, -10000));
        Check.due("p36 the least there is", 0, peakOf(-10000));
        Check.due("p36 the greatest there is", 1, peakOf(9999, 10000));
        Check.due("p36 cells of no fact", 0, emptyTable().peak(0));
        Check.due("p36 without columns", -1, twoByNone().peak(0));
        Check.due("p36 without columns, the last row", -1, twoByNone().peak(1));
        Check.due("p36 the only column that is told", 0, oneByOne().peak(0));
        Check.due("p36 the last column of 23", 22, eightyInACell(1).peak(22));
        Check.due("p36 the first that is greater than -800000", 0, eightyInACell(-10000).peak(22));
        Doc.says(36, "Throws `IllegalStateException` if there are no axes");
        needsAxes("p36 peak", x -> x.peak(0));
        Twins.refused("p36 no axes, no row", Twins.STATE, Stores::small, x -> x.peak(-1));
        Doc.says(36, "Throws `IndexOutOfBoundsException` if there is no such row");
        Twins.index("p36 row of three", 3, TableEdgesTest::threeByThree, EbbTable::peak);
        Twins.index("p36 row of one", 1, TableEdgesTest::oneByOne, EbbTable::peak);
        Twins.index("p36 row of none", 0, TableEdgesTest::noneByNone, EbbTable::peak);
        Twins.index("p36 row without columns", 2, TableEdgesTest::twoByNone, EbbTable::peak);
        Twins.index("p36 row of none, two columns", 0, TableEdgesTest::noneByTwo, EbbTable::peak);
    }

    private static EbbTable emptyTable() {
        EbbTable x = widest();
        x.setAxes(0, 1, 1, 1);
        return x;
    }

    /** The peak of one row with these cells. */
    private static int peakOf(int... cells) {
        EbbTable x = Stores.withLevels(1, 1);
        x.addMember(0, 0);
        for (int column = 0; column < cells.length; column++) {
            x.addMember(1, 0);
            Stores.put(x, cells[column], 1, column + 1);
        }
        Stores.goTo(x, 0, 0);
        x.setAxes(0, 1, 1, 1);
        return x.peak(0);
    }
}
