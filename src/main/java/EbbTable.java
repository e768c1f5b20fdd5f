/**
 * A store for online analysis: dimensions with trees of members, facts where leaves of all dimensions
 * meet, a point to look from, tables of two dimensions, and views by which questions cost less.
 */
public final class EbbTable {
    private static final int MAX_DIMENSIONS = 4;
    private static final int MAX_LEVEL = 3;
    private static final int MAX_MEMBERS = 24;
    private static final int MAX_FACTS = 80;
    private static final int MAX_VALUE = 10000;
    private static final int MAX_VIEWS = 6;
    private static final int THOUSAND = 1000;
    private static final int DIGEST_START = 2539;
    private static final int DIGEST_FACTOR = 31;
    private static final int NONE = -1;
    private static final int ROOT = 0;

    // LEVELS are one number with two bits for each dimension, those of dimension 0 in front: the order
    // of such numbers is then the order in which advise() looks for the smallest LEVELS.
    private static final int LEVEL_BITS = 2;
    private static final int LEVEL_MASK = 3;
    private static final int ALL_LEVELS = 256;

    private final Tree[] trees = new Tree[MAX_DIMENSIONS];
    private final FactList factList = new FactList();
    private final ViewList viewList = new ViewList();
    private final Axis rowAxis = new Axis();
    private final Axis columnAxis = new Axis();
    private int treeCount;
    private int chosenLevels;
    private boolean hasAxes;
    private boolean bareIsOut;

    // These, and what an axis lists, are no state: each call that reads them writes them anew. They are
    // kept so that no call makes an object.
    private final MemberList levelList = new MemberList();
    private final Lineup lineup = new Lineup();
    private final int[][] cellSums = new int[MAX_MEMBERS][MAX_MEMBERS];

    public EbbTable() {
        for (int dimension = 0; dimension < MAX_DIMENSIONS; dimension++) {
            trees[dimension] = new Tree();
        }
    }

    // ---- dimensions

    public int addDimension(int levels) throws IllegalArgumentException, IllegalStateException {
        if (levels < 1 || levels > MAX_LEVEL) {
            throw new IllegalArgumentException("levels is not 1 to 3");
        }
        if (treeCount >= MAX_DIMENSIONS) {
            throw new IllegalStateException("there are 4 dimensions");
        }
        int dimension = treeCount;
        trees[dimension].plant(levels);
        treeCount++;
        forgetWhatNeedsAllDimensions();
        return dimension;
    }

    public int addMember(int dimension, int parent) throws IndexOutOfBoundsException, IllegalStateException {
        Tree tree = treeWith(dimension, parent);
        if (tree.isLeaf(parent)) {
            throw new IllegalStateException("the parent is a leaf");
        }
        if (tree.isFull()) {
            throw new IllegalStateException("the dimension has 24 members");
        }
        return tree.grow(parent);
    }

    public int move(int dimension, int member, int parent)
            throws IndexOutOfBoundsException, IllegalArgumentException {
        Tree tree = treeWith(dimension, member);
        if (!tree.has(parent)) {
            throw new IndexOutOfBoundsException("no such parent");
        }
        if (member == ROOT) {
            throw new IllegalArgumentException("the root has no parent");
        }
        if (tree.depths[parent] != tree.depths[member] - 1) {
            throw new IllegalArgumentException("the parent is on another level than the one before");
        }
        int before = tree.parents[member];
        tree.parents[member] = parent;
        viewList.makeAllStale();
        return before;
    }

    public int dimensions() {
        return treeCount;
    }

    public int members(int dimension) throws IndexOutOfBoundsException {
        return treeOf(dimension).size;
    }

    public int parentOf(int dimension, int member) throws IndexOutOfBoundsException {
        return treeWith(dimension, member).parents[member];
    }

    public int levelOf(int dimension, int member) throws IndexOutOfBoundsException {
        return treeWith(dimension, member).depths[member];
    }

    public int memberAt(int dimension, int level, int place) throws IndexOutOfBoundsException {
        Tree tree = treeWithLevel(dimension, level);
        tree.listBeneath(ROOT, level, levelList);
        if (!levelList.hasPlace(place)) {
            throw new IndexOutOfBoundsException("no such place");
        }
        return levelList.members[place];
    }

    public boolean leaveOut(int dimension, int member, boolean isOut) throws IndexOutOfBoundsException {
        Tree tree = treeWith(dimension, member);
        boolean before = tree.outs[member];
        tree.outs[member] = isOut;
        return before;
    }

    // ---- the point

    public int goTo(int dimension, int member) throws IndexOutOfBoundsException {
        Tree tree = treeWith(dimension, member);
        int before = tree.point;
        tree.point = member;
        return before;
    }

    public int goUp(int dimension) throws IndexOutOfBoundsException {
        Tree tree = treeOf(dimension);
        if (!tree.has(tree.point) || tree.point == ROOT) {
            return NONE;
        }
        tree.point = tree.parents[tree.point];
        return tree.point;
    }

    public int pointOf(int dimension) throws IndexOutOfBoundsException {
        return treeOf(dimension).point;
    }

    public int add(int value) throws IllegalArgumentException, IllegalStateException {
        if (value < -MAX_VALUE || value > MAX_VALUE) {
            throw new IllegalArgumentException("value is not -10000 to 10000");
        }
        if (!isPointOfLeaves()) {
            throw new IllegalStateException("the point is not one of leaves");
        }
        if (factList.size >= MAX_FACTS) {
            throw new IllegalStateException("there are 80 facts");
        }
        int fact = factList.size;
        factList.values[fact] = value;
        for (int dimension = 0; dimension < treeCount; dimension++) {
            factList.leaves[dimension][fact] = trees[dimension].point;
        }
        factList.size++;
        viewList.makeAllStale();
        return fact;
    }

    public int drop(int fact) throws IndexOutOfBoundsException {
        if (!factList.has(fact)) {
            throw new IndexOutOfBoundsException("no such fact");
        }
        int value = factList.values[fact];
        factList.closeGapAt(fact);
        viewList.makeAllStale();
        return value;
    }

    public int facts() {
        return factList.size;
    }

    public int count() {
        int number = 0;
        for (int fact = 0; fact < factList.size; fact++) {
            if (isSeen(fact)) {
                number++;
            }
        }
        return number;
    }

    public int sum() {
        int total = 0;
        for (int fact = 0; fact < factList.size; fact++) {
            if (isSeen(fact)) {
                total += factList.values[fact];
            }
        }
        return total;
    }

    public int least() {
        int best = MAX_VALUE + 1;
        for (int fact = 0; fact < factList.size; fact++) {
            if (factList.values[fact] < best && isSeen(fact)) {
                best = factList.values[fact];
            }
        }
        return best > MAX_VALUE ? 0 : best;
    }

    public int greatest() {
        int best = -MAX_VALUE - 1;
        for (int fact = 0; fact < factList.size; fact++) {
            if (factList.values[fact] > best && isSeen(fact)) {
                best = factList.values[fact];
            }
        }
        return best < -MAX_VALUE ? 0 : best;
    }

    public double mean() {
        int number = count();
        if (number == 0) {
            return 0;
        }
        return (double) sum() / (double) number;
    }

    // ---- what is beneath the point

    public int children(int dimension) throws IndexOutOfBoundsException {
        Tree tree = treeOf(dimension);
        tree.listBeneath(tree.point, tree.depthOfChildren(), lineup.list);
        return lineup.list.size;
    }

    public int sumOf(int dimension, int child) throws IndexOutOfBoundsException {
        lineUpWith(dimension, child);
        return lineup.sums[child];
    }

    public int ranked(int dimension, int rank) throws IndexOutOfBoundsException {
        lineUpWith(dimension, rank);
        return lineup.childOfRank(rank);
    }

    public int running(int dimension, int child) throws IndexOutOfBoundsException {
        lineUpWith(dimension, child);
        int total = 0;
        for (int place = 0; place <= child; place++) {
            total += lineup.sums[place];
        }
        return total;
    }

    public int share(int dimension, int child) throws IndexOutOfBoundsException {
        lineUpWith(dimension, child);
        int whole = sum();
        if (whole == 0) {
            return 0;
        }
        return THOUSAND * lineup.sums[child] / whole;
    }

    public int fewest(int dimension, int part) throws IndexOutOfBoundsException, IllegalArgumentException {
        Tree tree = treeOf(dimension);
        if (part < 1 || part > THOUSAND) {
            throw new IllegalArgumentException("part is not 1 to 1000");
        }
        lineUp(dimension, tree);
        int enough = part * sum();
        int together = 0;
        for (int taken = 0; taken <= lineup.list.size; taken++) {
            if (together * THOUSAND >= enough) {
                return taken;
            }
            together += lineup.sumOfRank(taken);
        }
        return NONE;
    }

    public int drill(int dimension) throws IndexOutOfBoundsException {
        Tree tree = treeOf(dimension);
        for (int step = 0; step < MAX_LEVEL; step++) {
            lineUp(dimension, tree);
            int first = lineup.childOfRank(0);
            if (!lineup.list.hasPlace(first)) {
                break;
            }
            tree.point = lineup.list.members[first];
        }
        return tree.point;
    }

    // ---- tables

    public int setAxes(int rows, int rowLevel, int columns, int columnLevel)
            throws IndexOutOfBoundsException, IllegalArgumentException {
        requireLevel(rows, rowLevel);
        requireLevel(columns, columnLevel);
        if (rows == columns) {
            throw new IllegalArgumentException("both dimensions are the same");
        }
        rowAxis.dimension = rows;
        rowAxis.level = rowLevel;
        columnAxis.dimension = columns;
        columnAxis.level = columnLevel;
        hasAxes = true;
        layTable();
        return rowAxis.shownCount;
    }

    public boolean setBare(boolean isOut) {
        boolean before = bareIsOut;
        bareIsOut = isOut;
        return before;
    }

    public int rows() throws IllegalStateException {
        layTableOfAxes();
        return rowAxis.shownCount;
    }

    public int columns() throws IllegalStateException {
        layTableOfAxes();
        return columnAxis.shownCount;
    }

    public int rowMember(int row) throws IllegalStateException, IndexOutOfBoundsException {
        layTableOfAxes();
        requireLine(rowAxis, row);
        return rowAxis.memberOfLine(row);
    }

    public int columnMember(int column) throws IllegalStateException, IndexOutOfBoundsException {
        layTableOfAxes();
        requireLine(columnAxis, column);
        return columnAxis.memberOfLine(column);
    }

    public int cell(int row, int column) throws IllegalStateException, IndexOutOfBoundsException {
        layTableOfAxes();
        requireLine(rowAxis, row);
        requireLine(columnAxis, column);
        return cellOfLines(row, column);
    }

    public int peak(int row) throws IllegalStateException, IndexOutOfBoundsException {
        layTableOfAxes();
        requireLine(rowAxis, row);
        int best = NONE;
        for (int column = 0; column < columnAxis.shownCount; column++) {
            if (best == NONE || cellOfLines(row, column) > cellOfLines(row, best)) {
                best = column;
            }
        }
        return best;
    }

    // ---- views

    public int setLevel(int dimension, int level) throws IndexOutOfBoundsException {
        requireLevel(dimension, level);
        int before = levelIn(chosenLevels, dimension);
        chosenLevels += (level - before) << bitsBehind(dimension);
        return before;
    }

    public int cellCount() {
        return cellsOf(chosenLevels);
    }

    public int keep() throws IllegalStateException {
        if (viewList.size >= MAX_VIEWS) {
            throw new IllegalStateException("there are 6 views");
        }
        int view = viewList.size;
        viewList.size++;
        viewList.levels[view] = chosenLevels;
        viewList.fill(view, cellsOf(chosenLevels));
        return view;
    }

    public int dropView(int view) throws IndexOutOfBoundsException {
        requireView(view);
        viewList.closeGapAt(view);
        return viewList.size;
    }

    public int refresh(int view) throws IndexOutOfBoundsException {
        requireView(view);
        viewList.fill(view, cellsOf(viewList.levels[view]));
        return viewList.lines[view];
    }

    public int views() {
        return viewList.size;
    }

    public int rowsOf(int view) throws IndexOutOfBoundsException {
        requireView(view);
        return viewList.lines[view];
    }

    public boolean isStale(int view) throws IndexOutOfBoundsException {
        requireView(view);
        return viewList.stale[view];
    }

    public int cost() {
        return costOf(chosenLevels);
    }

    public int answeredBy() {
        return viewFor(chosenLevels);
    }

    public int gain() {
        return gainOf(chosenLevels);
    }

    public int advise() {
        int best = NONE;
        int advised = 0;
        for (int levels = 0; levels < ALL_LEVELS; levels++) {
            int gained = areLevels(levels) ? gainOf(levels) : NONE;
            if (gained > best) {
                best = gained;
                advised = levels;
            }
        }
        chosenLevels = advised;
        return best;
    }

    public long digest() {
        long d = DIGEST_START;
        d = mix(d, treeCount);
        for (int dimension = 0; dimension < treeCount; dimension++) {
            d = mixTree(d, dimension);
        }
        d = mix(d, factList.size);
        d = mix(d, count());
        d = mix(d, sum());
        d = mix(d, least());
        d = mix(d, greatest());
        for (int dimension = 0; dimension < treeCount; dimension++) {
            d = mixLineup(d, dimension);
        }
        if (hasAxes) {
            d = mixTable(d);
        }
        d = mixViews(d);
        d = mix(d, cellsOf(chosenLevels));
        d = mix(d, costOf(chosenLevels));
        d = mix(d, viewFor(chosenLevels));
        return mix(d, gainOf(chosenLevels));
    }

    // ---- what the calls are made of: dimensions and the point

    private Tree treeOf(int dimension) {
        if (dimension < 0 || dimension >= treeCount) {
            throw new IndexOutOfBoundsException("no such dimension");
        }
        return trees[dimension];
    }

    private Tree treeWith(int dimension, int member) {
        Tree tree = treeOf(dimension);
        if (!tree.has(member)) {
            throw new IndexOutOfBoundsException("no such member");
        }
        return tree;
    }

    private Tree treeWithLevel(int dimension, int level) {
        Tree tree = treeOf(dimension);
        if (level < 0 || level > tree.leafDepth) {
            throw new IndexOutOfBoundsException("no such level");
        }
        return tree;
    }

    private void requireLevel(int dimension, int level) {
        treeWithLevel(dimension, level);
    }

    private void forgetWhatNeedsAllDimensions() {
        factList.size = 0;
        viewList.size = 0;
        hasAxes = false;
        for (int dimension = 0; dimension < treeCount; dimension++) {
            trees[dimension].leaveNothingOut();
        }
    }

    private boolean isPointOfLeaves() {
        for (int dimension = 0; dimension < treeCount; dimension++) {
            if (!trees[dimension].isLeaf(trees[dimension].point)) {
                return false;
            }
        }
        return treeCount > 0;
    }

    /** Whether a fact COUNTS and is beneath the POINT. */
    private boolean isSeen(int fact) {
        for (int dimension = 0; dimension < treeCount; dimension++) {
            if (!trees[dimension].isSeen(factList.leaves[dimension][fact])) {
                return false;
            }
        }
        return true;
    }

    /** Writes the children of the member of the POINT and their sums into the lineup. */
    private void lineUp(int dimension, Tree tree) {
        int depth = tree.depthOfChildren();
        tree.listBeneath(tree.point, depth, lineup.list);
        lineup.clearSums();
        for (int fact = 0; fact < factList.size; fact++) {
            int child = lineup.list.placeOf(tree.aboveOn(factList.leaves[dimension][fact], depth));
            if (lineup.list.hasPlace(child) && isSeen(fact)) {
                lineup.sums[child] += factList.values[fact];
            }
        }
    }

    private void lineUpWith(int dimension, int place) {
        lineUp(dimension, treeOf(dimension));
        if (!lineup.list.hasPlace(place)) {
            throw new IndexOutOfBoundsException("not so many children");
        }
    }

    // ---- what the calls are made of: tables

    private void layTableOfAxes() {
        if (!hasAxes) {
            throw new IllegalStateException("there are no axes");
        }
        layTable();
    }

    private void requireLine(Axis axis, int line) {
        if (!axis.hasLine(line)) {
            throw new IndexOutOfBoundsException("no such row or column");
        }
    }

    private void layTable() {
        layAxis(rowAxis);
        layAxis(columnAxis);
        clearCells();
        for (int fact = 0; fact < factList.size; fact++) {
            if (isSeen(fact)) {
                putIntoCell(fact);
            }
        }
        rowAxis.showLines(bareIsOut);
        columnAxis.showLines(bareIsOut);
    }

    private void layAxis(Axis axis) {
        Tree tree = trees[axis.dimension];
        tree.listBeneath(tree.point, axis.level, axis.list);
        axis.forgetUse();
    }

    private void clearCells() {
        for (int row = 0; row < rowAxis.list.size; row++) {
            for (int column = 0; column < columnAxis.list.size; column++) {
                cellSums[row][column] = 0;
            }
        }
    }

    private void putIntoCell(int fact) {
        int row = placeOnAxis(fact, rowAxis);
        int column = placeOnAxis(fact, columnAxis);
        if (rowAxis.list.hasPlace(row) && columnAxis.list.hasPlace(column)) {
            cellSums[row][column] += factList.values[fact];
            rowAxis.used[row] = true;
            columnAxis.used[column] = true;
        }
    }

    private int placeOnAxis(int fact, Axis axis) {
        int leaf = factList.leaves[axis.dimension][fact];
        return axis.list.placeOf(trees[axis.dimension].aboveOn(leaf, axis.level));
    }

    private int cellOfLines(int row, int column) {
        if (!rowAxis.hasLine(row) || !columnAxis.hasLine(column)) {
            return 0;
        }
        return cellSums[rowAxis.shown[row]][columnAxis.shown[column]];
    }

    // ---- what the calls are made of: LEVELS and views

    private static int bitsBehind(int dimension) {
        return (MAX_DIMENSIONS - 1 - dimension) * LEVEL_BITS;
    }

    private static int levelIn(int levels, int dimension) {
        return (levels >> bitsBehind(dimension)) & LEVEL_MASK;
    }

    /** Whether these have in each dimension the level that is asked for, or a greater one. */
    private static boolean reach(int levels, int asked) {
        for (int mask = LEVEL_MASK; mask < ALL_LEVELS; mask <<= LEVEL_BITS) {
            if ((levels & mask) < (asked & mask)) {
                return false;
            }
        }
        return true;
    }

    /** Whether every dimension has its level of these; one that is not there yet has the level 0 alone. */
    private boolean areLevels(int levels) {
        for (int dimension = 0; dimension < MAX_DIMENSIONS; dimension++) {
            if (levelIn(levels, dimension) > trees[dimension].leafDepth) {
                return false;
            }
        }
        return true;
    }

    private int cellsOf(int levels) {
        int cells = 0;
        for (int fact = 0; fact < factList.size; fact++) {
            factList.cells[fact] = cellAround(fact, levels);
            if (factList.isFirstOfItsCell(fact)) {
                cells++;
            }
        }
        return cells;
    }

    /** The members above a fact on these levels, as one number: different cells have different ones. */
    private int cellAround(int fact, int levels) {
        int number = 0;
        for (int dimension = 0; dimension < treeCount; dimension++) {
            int leaf = factList.leaves[dimension][fact];
            number = number * MAX_MEMBERS + trees[dimension].aboveOn(leaf, levelIn(levels, dimension));
        }
        return number;
    }

    private void requireView(int view) {
        if (!viewList.has(view)) {
            throw new IndexOutOfBoundsException("no such view");
        }
    }

    private int viewFor(int levels) {
        int best = NONE;
        int price = factList.size;
        for (int view = 0; view < viewList.size; view++) {
            if (viewList.lines[view] < price && !viewList.stale[view] && reach(viewList.levels[view], levels)) {
                best = view;
                price = viewList.lines[view];
            }
        }
        return best;
    }

    private int costOf(int levels) {
        int view = viewFor(levels);
        return viewList.has(view) ? viewList.lines[view] : factList.size;
    }

    private int gainOf(int levels) {
        int cells = cellsOf(levels);
        int total = 0;
        for (int asked = 0; asked <= levels; asked++) {
            if (reach(levels, asked)) {
                total += Math.max(0, costOf(asked) - cells);
            }
        }
        return total;
    }

    // ---- what the calls are made of: the checksum

    private static long mix(long d, long v) {
        return d * DIGEST_FACTOR + v;
    }

    private long mixTree(long before, int dimension) {
        Tree tree = trees[dimension];
        long d = mix(before, tree.size);
        for (int member = 0; member < tree.size; member++) {
            d = mix(d, tree.parents[member]);
            d = mix(d, tree.depths[member]);
        }
        d = mix(d, tree.point);
        return mix(d, levelIn(chosenLevels, dimension));
    }

    private long mixLineup(long before, int dimension) {
        lineUp(dimension, trees[dimension]);
        long d = mix(before, lineup.list.size);
        for (int rank = 0; rank < lineup.list.size; rank++) {
            d = mix(d, lineup.childOfRank(rank));
        }
        return d;
    }

    private long mixTable(long before) {
        layTable();
        long d = mix(before, rowAxis.shownCount);
        d = mix(d, columnAxis.shownCount);
        for (int row = 0; row < rowAxis.shownCount; row++) {
            d = mix(d, rowAxis.memberOfLine(row));
        }
        for (int column = 0; column < columnAxis.shownCount; column++) {
            d = mix(d, columnAxis.memberOfLine(column));
        }
        for (int row = 0; row < rowAxis.shownCount; row++) {
            for (int column = 0; column < columnAxis.shownCount; column++) {
                d = mix(d, cellOfLines(row, column));
            }
        }
        return d;
    }

    private long mixViews(long before) {
        long d = mix(before, viewList.size);
        for (int view = 0; view < viewList.size; view++) {
            d = mix(d, viewList.lines[view]);
            d = mix(d, viewList.stale[view] ? 1 : 0);
        }
        return d;
    }

    /** Members of one dimension, in an order. */
    private static final class MemberList {
        final int[] members = new int[MAX_MEMBERS];
        int size;

        void append(int member) {
            if (size < MAX_MEMBERS) {
                members[size] = member;
                size++;
            }
        }

        boolean hasPlace(int place) {
            return place >= 0 && place < size;
        }

        int placeOf(int member) {
            for (int place = 0; place < size; place++) {
                if (members[place] == member) {
                    return place;
                }
            }
            return NONE;
        }
    }

    /** The members of one dimension, which of them are left out, and the one that the POINT has. */
    private static final class Tree {
        final int[] parents = new int[MAX_MEMBERS];
        final int[] depths = new int[MAX_MEMBERS];
        final boolean[] outs = new boolean[MAX_MEMBERS];
        int leafDepth;
        int size;
        int point;

        void plant(int levels) {
            leafDepth = levels;
            parents[ROOT] = NONE;
            size = 1;
        }

        boolean has(int member) {
            return member >= 0 && member < size;
        }

        boolean isFull() {
            return size >= MAX_MEMBERS;
        }

        boolean isLeaf(int member) {
            return has(member) && depths[member] == leafDepth;
        }

        /** Adds a member beneath a parent that the caller has looked at. */
        int grow(int parent) {
            if (!has(parent) || isFull()) {
                return NONE;
            }
            int member = size;
            parents[member] = parent;
            depths[member] = depths[parent] + 1;
            size++;
            return member;
        }

        void leaveNothingOut() {
            for (int member = 0; member < MAX_MEMBERS; member++) {
                outs[member] = false;
            }
        }

        int depthOfChildren() {
            return has(point) ? depths[point] + 1 : 0;
        }

        /** Whether a leaf is beneath the member of the POINT, and beneath none that is left out. */
        boolean isSeen(int leaf) {
            boolean isBeneathPoint = false;
            int member = leaf;
            for (int step = 0; step <= MAX_LEVEL && has(member); step++) {
                if (outs[member]) {
                    return false;
                }
                if (member == point) {
                    isBeneathPoint = true;
                }
                member = parents[member];
            }
            return isBeneathPoint;
        }

        /** The member on this level that this one is beneath; itself, if it is no deeper. */
        int aboveOn(int member, int level) {
            int above = member;
            for (int step = 0; step < MAX_LEVEL && has(above) && depths[above] > level; step++) {
                above = parents[above];
            }
            return above;
        }

        /** Lists the members on a level that are beneath top, in their order. */
        void listBeneath(int top, int level, MemberList list) {
            list.size = 0;
            int member = top;
            for (int step = 0; step < size && has(member); step++) {
                if (depths[member] == level) {
                    list.append(member);
                }
                member = nextInWalk(member, top);
            }
        }

        /** The member that follows in a walk through all that is beneath top; -1 behind the last one. */
        private int nextInWalk(int member, int top) {
            int next = childFrom(member, 0);
            int left = member;
            for (int step = 0; step < MAX_LEVEL && next == NONE && left != top && has(left); step++) {
                next = childFrom(parents[left], left + 1);
                left = parents[left];
            }
            return next;
        }

        /** The first child of a parent whose number is not less than start; -1 without one. */
        private int childFrom(int parent, int start) {
            for (int member = start; member < size; member++) {
                if (parents[member] == parent) {
                    return member;
                }
            }
            return NONE;
        }
    }

    /** All facts: a leaf of each dimension, and a value. */
    private static final class FactList {
        final int[][] leaves = new int[MAX_DIMENSIONS][MAX_FACTS];
        final int[] values = new int[MAX_FACTS];
        final int[] cells = new int[MAX_FACTS];
        int size;

        boolean has(int fact) {
            return fact >= 0 && fact < size;
        }

        void closeGapAt(int gap) {
            for (int fact = gap; fact + 1 < size; fact++) {
                values[fact] = values[fact + 1];
                for (int dimension = 0; dimension < MAX_DIMENSIONS; dimension++) {
                    leaves[dimension][fact] = leaves[dimension][fact + 1];
                }
            }
            size--;
        }

        boolean isFirstOfItsCell(int fact) {
            for (int earlier = 0; earlier < fact; earlier++) {
                if (cells[earlier] == cells[fact]) {
                    return false;
                }
            }
            return true;
        }
    }

    /** All views: their LEVELS, how many rows they have, and whether they are STALE. */
    private static final class ViewList {
        final int[] levels = new int[MAX_VIEWS];
        final int[] lines = new int[MAX_VIEWS];
        final boolean[] stale = new boolean[MAX_VIEWS];
        int size;

        boolean has(int view) {
            return view >= 0 && view < size;
        }

        void fill(int view, int cells) {
            if (has(view)) {
                lines[view] = cells;
                stale[view] = false;
            }
        }

        void makeAllStale() {
            for (int view = 0; view < size; view++) {
                stale[view] = true;
            }
        }

        void closeGapAt(int gap) {
            for (int view = gap; view + 1 < size; view++) {
                levels[view] = levels[view + 1];
                lines[view] = lines[view + 1];
                stale[view] = stale[view + 1];
            }
            size--;
        }
    }

    /** The children of the member of the POINT in one dimension, with the sums beneath them. */
    private static final class Lineup {
        final MemberList list = new MemberList();
        final int[] sums = new int[MAX_MEMBERS];

        void clearSums() {
            for (int child = 0; child < MAX_MEMBERS; child++) {
                sums[child] = 0;
            }
        }

        int childOfRank(int rank) {
            for (int child = 0; child < list.size; child++) {
                if (childrenAheadOf(child) == rank) {
                    return child;
                }
            }
            return NONE;
        }

        int sumOfRank(int rank) {
            int child = childOfRank(rank);
            return list.hasPlace(child) ? sums[child] : 0;
        }

        private int childrenAheadOf(int child) {
            int ahead = 0;
            for (int other = 0; other < list.size; other++) {
                boolean isEqual = sums[other] == sums[child];
                if (sums[other] > sums[child] || (isEqual && other < child)) {
                    ahead++;
                }
            }
            return ahead;
        }
    }

    /** The rows, or the columns, of the table: all of its members, and those that are shown. */
    private static final class Axis {
        final MemberList list = new MemberList();
        final boolean[] used = new boolean[MAX_MEMBERS];
        final int[] shown = new int[MAX_MEMBERS];
        int shownCount;
        int dimension;
        int level;

        void forgetUse() {
            for (int place = 0; place < MAX_MEMBERS; place++) {
                used[place] = false;
            }
        }

        void showLines(boolean usedAlone) {
            shownCount = 0;
            for (int place = 0; place < list.size; place++) {
                if (used[place] || !usedAlone) {
                    shown[shownCount] = place;
                    shownCount++;
                }
            }
        }

        boolean hasLine(int line) {
            return line >= 0 && line < shownCount;
        }

        int memberOfLine(int line) {
            return hasLine(line) ? list.members[shown[line]] : NONE;
        }
    }
}
