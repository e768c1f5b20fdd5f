import java.math.BigInteger;

/** A test for each sentence of the promises 37 to 49, at the bounds that it names. */
public final class ViewEdgesTest {
    private ViewEdgesTest() {
    }

    public static void main(String[] args) {
        p37();
        p38();
        p39();
        p40();
        p41();
        p42();
        p43();
        p44();
        p45();
        p46();
        p47();
        p48();
        p49();
        Doc.isTested(37, 49);
        Check.end("ViewEdgesTest");
    }

    /** The small store with as many views; of each second one the LEVELS are the leaves. */
    private static EbbTable withViews(int number) {
        EbbTable x = Stores.small();
        for (int view = 0; view < number; view++) {
            Stores.setLevels(x, view % 2 == 0 ? 0 : 2, view % 2 == 0 ? 0 : 1);
            x.keep();
        }
        return x;
    }

    // ---- 37, 38. setLevel, cellCount

    private static void p37() {
        Doc.says(37, "its level of the LEVELS from now on");
        Doc.says(37, "Returns the one before");
        EbbTable x = Stores.withLevels(3, 3, 3, 3);
        for (int d = 0; d < 4; d++) {
            int[] turns = {3, 3, 0, 1, 2, 0, 2, 1, 3};
            int before = 0;
            for (int level : turns) {
                Check.due("p37 the one before", before, x.setLevel(d, level));
                before = level;
            }
        }
        for (int d = 0; d < 4; d++) {
            Check.due("p37 the others leave it as it is", 3, x.setLevel(d, 3));
        }
        Doc.says(37, "Throws `IndexOutOfBoundsException` if there is no such dimension, or level of it");
        Twins.index("p37 dimension", 2, Stores::furnished, (y, d) -> y.setLevel(d, 0));
        Twins.index("p37 dimension of four", 4, Stores::full, (y, d) -> y.setLevel(d, 3));
        Twins.index("p37 level of one", 2, Stores::furnished, (y, l) -> y.setLevel(1, l));
        Twins.index("p37 level of two", 3, Stores::furnished, (y, l) -> y.setLevel(0, l));
        Twins.index("p37 level of three", 4, Stores::full, (y, l) -> y.setLevel(3, l));
    }

    private static void p38() {
        Doc.says(38, "Returns how many cells the LEVELS have");
        Check.due("p38 no dimension", 0, new EbbTable().cellCount());
        Check.due("p38 no fact", 0, Stores.withoutFacts().cellCount());
        EbbTable x = Stores.row(5);
        Check.due("p38 one fact", 1, x.cellCount());
        x.setLevel(0, 1);
        Check.due("p38 one fact at its leaf", 1, x.cellCount());
        x.drop(0);
        Check.due("p38 none is left", 0, x.cellCount());
        EbbTable full = Stores.full();
        Check.due("p38 two and two of 80 facts are alike", 40, full.cellCount());
        Stores.setLevels(full, 2, 2, 2, 2);
        Check.due("p38 one above the leaves", 1, full.cellCount());
        int[] leaves = {10, 10, 11, 11};
        for (int d = 0; d < 4; d++) {
            Stores.setLevels(full, 0, 0, 0, 0);
            full.setLevel(d, 3);
            Check.due("p38 leaves of " + d + " alone", leaves[d], full.cellCount());
        }
        digitsOfACellAreKeptApart();
    }

    /** Two leaves differ in one dimension alone, by the greatest and by the least step. */
    private static void digitsOfACellAreKeptApart() {
        for (int d = 0; d < 4; d++) {
            for (int other : new int[] {4, 23}) {
                EbbTable x = Stores.full();
                for (int fact = 79; fact >= 0; fact--) {
                    x.drop(fact);
                }
                Stores.put(x, 1, 3, 3, 3, 3);
                x.goTo(d, other);
                x.add(1);
                Check.due("p38 different in " + d, 2, x.cellCount());
                x.setLevel(d, 2);
                Check.due("p38 different in " + d + " no more", 1, x.cellCount());
            }
        }
    }

    // ---- 39, 40. keep, dropView

    private static void p39() {
        Doc.says(39, "Keeps a view of the LEVELS, also if there is one already");
        Doc.says(39, "Returns its number");
        EbbTable x = Stores.small();
        Stores.setLevels(x, 2, 1);
        for (int view = 0; view < 6; view++) {
            Check.due("p39 the same LEVELS again", view, x.keep());
            Check.due("p39 with rows of its own", 4, x.rowsOf(view));
        }
        Check.due("p39 the LEVELS stay", 4, x.cellCount());
        Check.due("p39 without facts", 0, Stores.withoutFacts().keep());
        Check.due("p39 without dimensions", 0, new EbbTable().keep());
        Doc.says(39, "Throws `IllegalStateException` if there are 6");
        for (int there = 0; there < 6; there++) {
            int number = there;
            Twins.accepted("p39 as there are " + there, () -> withViews(number), EbbTable::keep);
        }
        Twins.refused("p39 a seventh", Twins.STATE, () -> withViews(6), EbbTable::keep);
        Twins.refused("p39 a seventh in a full store", Twins.STATE, Stores::full, EbbTable::keep);
        Twins.refused("p39 a seventh, all are stale", Twins.STATE, ViewEdgesTest::sixStale, EbbTable::keep);
        EbbTable y = withViews(6);
        y.dropView(0);
        Check.due("p39 as one was dropped", 5, y.keep());
        Check.refused("p39 six again", Twins.STATE, y, y::keep);
    }

    private static EbbTable sixStale() {
        EbbTable x = withViews(6);
        x.drop(0);
        return x;
    }

    private static void p40() {
        Doc.says(40, "Drops a view; those with greater numbers have one less from then on");
        Doc.says(40, "Returns how many there are then");
        for (int dropped = 0; dropped < 6; dropped++) {
            EbbTable x = sixDifferent();
            int[] rows = {1, 3, 2, 4, 3, 4};
            int[] later = {1, 3, 1, 3, 2, 3};
            boolean[] stale = {true, false, true, true, false, true};
            Check.due("p40 how many there are then", 5, x.dropView(dropped));
            Check.due("p40 as many as are told", 5, x.views());
            for (int view = 0; view < 5; view++) {
                int from = view < dropped ? view : view + 1;
                boolean isOld = stale[from];
                Check.due("p40 rows of " + from, isOld ? rows[from] : later[from], x.rowsOf(view));
                Check.due("p40 whether stale " + from, isOld, x.isStale(view));
                Check.due("p40 LEVELS of " + from, later[from], x.refresh(view));
            }
        }
        EbbTable x = withViews(2);
        Check.due("p40 one is left", 1, x.dropView(1));
        Check.due("p40 none is left", 0, x.dropView(0));
        Check.due("p40 then the first is 0", 0, x.keep());
        Doc.says(40, "Throws `IndexOutOfBoundsException` if there is no such view");
        for (int number : new int[] {0, 1, 2, 5, 6}) {
            Twins.index("p40 view of " + number, number, () -> withViews(number), EbbTable::dropView);
        }
    }

    /** Views of all LEVELS of the small store; then one fact less, 1 and 4 refreshed. */
    private static EbbTable sixDifferent() {
        EbbTable x = Stores.small();
        for (int view = 0; view < 6; view++) {
            Stores.setLevels(x, view / 2, view % 2);
            x.keep();
        }
        x.drop(2);
        x.refresh(1);
        x.refresh(4);
        Stores.setLevels(x, 0, 0);
        return x;
    }

    // ---- 41 to 44. refresh, views, rowsOf, isStale

    private static void p41() {
        Doc.says(41, "Returns how many rows it has then");
        EbbTable x = withViews(2);
        for (int left = 5; left > 0; left--) {
            Check.due("p41 the root's", 1, x.refresh(0));
            Check.due("p41 the leaves'", Math.min(left, 4), x.refresh(1));
            Check.due("p41 told so", Math.min(left, 4), x.rowsOf(1));
            Check.due("p41 not stale", false, x.isStale(1));
            x.drop(left - 1);
            Check.due("p41 stale then", true, x.isStale(1));
        }
        Check.due("p41 no fact is left", 0, x.refresh(0));
        Check.due("p41 nor for the other", 0, x.refresh(1));
        Doc.says(41, "Throws `IndexOutOfBoundsException` if there is no such view");
        for (int number : new int[] {0, 1, 2, 5, 6}) {
            Twins.index("p41 view of " + number, number, () -> withViews(number), EbbTable::refresh);
        }
        Twins.index("p41 view of six stale ones", 6, ViewEdgesTest::sixStale, EbbTable::refresh);
    }

    private static void p42() {
        Doc.says(42, "Returns how many views there are");
        for (int number = 0; number <= 6; number++) {
            EbbTable x = withViews(number);
            Check.due("p42 views", number, x.views());
            x.drop(0);
            Check.due("p42 stale ones too", number, x.views());
        }
        Check.due("p42 none", 0, new EbbTable().views());
    }

    private static void p43() {
        Doc.says(43, "Returns how many rows it has");
        EbbTable x = withViews(6);
        int[] due = {1, 4, 1, 4, 1, 4};
        for (int view = 0; view < 6; view++) {
            Check.due("p43 rows of " + view, due[view], x.rowsOf(view));
        }
        for (int fact = 0; fact < 5; fact++) {
            x.drop(0);
        }
        Check.due("p43 as it was kept", 4, x.rowsOf(1));
        x.refresh(1);
        Check.due("p43 as it was refreshed", 0, x.rowsOf(1));
        Check.due("p43 and no other", 4, x.rowsOf(3));
        Doc.says(43, "Throws `IndexOutOfBoundsException` if there is no such view");
        for (int number : new int[] {0, 1, 2, 5, 6}) {
            Twins.index("p43 view of " + number, number, () -> withViews(number), EbbTable::rowsOf);
        }
    }

    private static void p44() {
        Doc.says(44, "Returns whether it is STALE");
        EbbTable x = withViews(6);
        for (int view = 0; view < 6; view++) {
            Check.due("p44 a new one is not: " + view, false, x.isStale(view));
        }
        x.drop(0);
        for (int view = 5; view >= 0; view--) {
            Check.due("p44 it is: " + view, true, x.isStale(view));
            x.refresh(view);
            Check.due("p44 it is not any more: " + view, false, x.isStale(view));
        }
        EbbTable none = new EbbTable();
        none.keep();
        Check.due("p44 one without dimensions is not", false, none.isStale(0));
        Doc.says(44, "Throws `IndexOutOfBoundsException` if there is no such view");
        for (int number : new int[] {0, 1, 2, 5, 6}) {
            Twins.index("p44 view of " + number, number, () -> withViews(number), EbbTable::isStale);
        }
    }

    // ---- 45 to 48. cost, answeredBy, gain, advise

    private static void p45() {
        Doc.says(45, "Returns the cost of a question of the LEVELS");
        Check.due("p45 no dimension", 0, new EbbTable().cost());
        Check.due("p45 no fact", 0, Stores.withoutFacts().cost());
        EbbTable x = Stores.full();
        Check.due("p45 by a view of the leaves", 40, x.cost());
        x.setLevel(0, 0);
        Check.due("p45 also above them", 40, x.cost());
        x.move(0, 23, 2);
        Check.due("p45 80 facts, as all views are stale", 80, x.cost());
        x.refresh(5);
        Check.due("p45 the last view", 40, x.cost());
        x.dropView(5);
        Check.due("p45 all facts again", 80, x.cost());
        EbbTable y = Stores.row(1, 2);
        y.setLevel(0, 1);
        y.keep();
        Check.due("p45 as many rows as facts", 2, y.cost());
    }

    private static void p46() {
        Doc.says(46, "Returns the view that answers a question of the LEVELS; -1 if all facts do");
        Check.due("p46 no dimension", -1, new EbbTable().answeredBy());
        Check.due("p46 no view", -1, Stores.small().answeredBy());
        EbbTable empty = new EbbTable();
        empty.keep();
        Check.due("p46 no fact: all of them do", -1, empty.answeredBy());
        EbbTable x = Stores.full();
        Check.due("p46 of six alike the first", 0, x.answeredBy());
        x.drop(0);
        Check.due("p46 all are stale", -1, x.answeredBy());
        for (int view = 5; view >= 0; view--) {
            x.refresh(view);
            Check.due("p46 the first that is not stale", view, x.answeredBy());
        }
        EbbTable y = Stores.row(1, 2, 3);
        y.setLevel(0, 1);
        y.keep();
        Check.due("p46 three rows, three facts", -1, y.answeredBy());
        Stores.put(y, 4, 1);
        y.refresh(0);
        Check.due("p46 three rows, four facts", 0, y.answeredBy());
    }

    private static void p47() {
        Doc.says(47, "Returns the GAIN of the LEVELS");
        Check.due("p47 no dimension", 0, new EbbTable().gain());
        Check.due("p47 no fact", 0, Stores.withoutFacts().gain());
        Check.due("p47 one fact", 0, Stores.row(1).gain());
        Check.due("p47 two facts", 1, Stores.row(1, 2).gain());
        EbbTable x = Stores.full();
        Check.due("p47 no less than the views", 0, x.gain());
        Stores.setLevels(x, 2, 2, 2, 2);
        Check.due("p47 one instead of 40 in 81 questions", 81 * 39, x.gain());
        x.drop(79);
        Check.due("p47 one instead of 79, as views are stale", 81 * 78, x.gain());
        Stores.setLevels(x, 3, 3, 3, 3);
        Check.due("p47 40 instead of 79 in 256 questions", 256 * 39, x.gain());
        for (int view = 0; view < 6; view++) {
            x.dropView(0);
        }
        Check.due("p47 and without any view", 256 * 39, x.gain());
    }

    private static void p48() {
        Doc.says(48, "Sets the LEVELS to the advice");
        Doc.says(48, "Returns its GAIN");
        Check.due("p48 no dimension", 0, new EbbTable().advise());
        EbbTable none = Stores.withoutFacts();
        Stores.setLevels(none, 2, 1);
        Check.due("p48 no fact", 0, none.advise());
        levelsAre(none, 0, 0);
        EbbTable x = Stores.full();
        x.drop(79);
        Check.due("p48 256 questions of 79 facts by 40 cells", 256 * 39, x.advise());
        levelsAre(x, 3, 3, 3, 3);
        EbbTable same = Stores.row(1);
        Stores.put(same, 2, 1);
        same.goTo(0, 0);
        Check.due("p48 one cell for both questions", 2, same.advise());
        levelsAre(same, 1);
        same.keep();
        Check.due("p48 nothing is left to gain", 0, same.advise());
        levelsAre(same, 0);
        Check.due("p48 it is their gain", same.gain(), same.advise());
    }

    private static void levelsAre(EbbTable x, int... due) {
        for (int d = 0; d < due.length; d++) {
            Check.due("p48 the level in " + d, due[d], x.setLevel(d, due[d]));
        }
    }

    // ---- 49. digest

    private static void p49() {
        Doc.says(49, "Computes a checksum");
        Doc.says(49, "A number d starts with 2539");
        Doc.says(49, "Returns d");
        int[] empty = {0, 0, 0, 0, 0, 0, 0, 0, 0, -1, 0};
        Check.due("p49 a new store", wrapped(empty), new EbbTable().digest());
        EbbTable one = Stores.row(-7);
        one.setLevel(0, 1);
        int[] due = {1, 2, -1, 0, 0, 1, 0, 1, 1, 1, -7, -7, -7, 1, 0, 0, 1, 1, -1, 0};
        Check.due("p49 one fact", wrapped(due), one.digest());
        Check.due("p49 a table", wrapped(ofATable()), withATable().digest());
        EbbTable bare = withATable();
        bare.goTo(1, 1);
        bare.setBare(true);
        int[] none = {2, 2, -1, 0, 0, 1, 0, 0, 2, -1, 0, 0, 1, 1, 0, 1, 0, 0, 0, 0, 1, 0, 0, 0, 0,
            2, 1, 1, 1, 0, 1, 1, -1, 0};
        Check.due("p49 a table without lines", wrapped(none), bare.digest());
        EbbTable last = withATable();
        last.addDimension(1);
        int[] gone = {3, 2, -1, 0, 0, 1, 0, 0, 2, -1, 0, 0, 1, 0, 0, 1, -1, 0, 0, 0,
            0, 0, 0, 0, 0, 1, 0, 1, 0, 0, 0, 0, 0, -1, 0};
        Check.due("p49 axes that are gone", wrapped(gone), last.digest());
        bothSigns();
    }

    /** Two dimensions of one leaf, the fact 5 there that does not count, axes, a fresh and a stale view. */
    private static EbbTable withATable() {
        EbbTable x = Stores.withLevels(1, 1);
        Stores.grow(x, 0, 0);
        Stores.grow(x, 1, 0);
        x.keep();
        Stores.put(x, 5, 1, 1);
        x.keep();
        x.dropView(0);
        x.keep();
        x.add(6);
        x.drop(1);
        x.refresh(1);
        Stores.goTo(x, 0, 0);
        x.leaveOut(1, 1, true);
        x.setAxes(1, 1, 0, 1);
        return x;
    }

    private static int[] ofATable() {
        return new int[] {2, 2, -1, 0, 0, 1, 0, 0, 2, -1, 0, 0, 1, 0, 0, 1, 0, 0, 0, 0, 1, 0, 1, 0,
            1, 1, 1, 1, 0, 2, 1, 1, 1, 0, 1, 1, -1, 0};
    }

    /** The same without any wrap-around on the way: only in the end the lowest 64 bits are taken. */
    private static long wrapped(int[] values) {
        BigInteger d = BigInteger.valueOf(2539);
        for (int v : values) {
            d = d.multiply(BigInteger.valueOf(31)).add(BigInteger.valueOf(v));
        }
        Check.holds("p49 it wraps around", d.bitLength() > 63);
        return d.longValue();
    }

    private static void bothSigns() {
        boolean isLess = false;
        boolean isGreater = false;
        EbbTable x = Stores.wide(23);
        for (int member = 0; member < 24; member++) {
            x.goTo(0, member);
            isLess |= x.digest() < 0;
            isGreater |= x.digest() > 0;
        }
        Check.holds("p49 less than 0 and greater", isLess && isGreater);
    }
}
