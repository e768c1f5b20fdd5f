import java.util.ArrayList;
import java.util.Arrays;
import java.util.Comparator;
import java.util.HashSet;
import java.util.List;
import java.util.Set;
import java.util.function.Predicate;

/**
 * The document once more, as literally as it can be said and without any care for speed: what RandomRunsTest
 * holds the program against. It is written from the document alone and shares nothing with the program.
 */
public final class Model {
    private static final class Member {
        final Member parent;
        final int level;
        final int number;

        Member(Member parent, int number) {
            this.parent = parent;
            this.number = number;
            this.level = parent == null ? 0 : parent.level + 1;
        }
    }

    private static final class Dim {
        final int levels;
        List<Member> members = new ArrayList<>();
        final Set<Integer> out = new HashSet<>();
        int point = 0;
        int level = 0;

        Dim(int levels) {
            this.levels = levels;
            members.add(new Member(null, 0));
        }

        boolean beneath(int m, int top) {
            for (Member at = members.get(m); at != null; at = at.parent) {
                if (at.number == top) {
                    return true;
                }
            }
            return false;
        }

        List<Integer> children(int m) {
            List<Integer> list = new ArrayList<>();
            for (Member other : members) {
                if (other.parent != null && other.parent.number == m) {
                    list.add(other.number);
                }
            }
            return list;
        }

        List<Integer> walk(int m) {
            List<Integer> list = new ArrayList<>(List.of(m));
            for (int child : children(m)) {
                list.addAll(walk(child));
            }
            return list;
        }

        List<Integer> onLevel(int level, int top) {
            List<Integer> list = walk(0);
            list.removeIf(m -> members.get(m).level != level || !beneath(m, top));
            return list;
        }

        boolean isOut(int leaf) {
            return out.stream().anyMatch(m -> beneath(leaf, m));
        }
    }

    private record Fact(List<Integer> leaves, int value) {
    }

    private static final class View {
        List<Integer> levels;
        int rows;
        boolean stale;
    }

    private final List<Dim> dims = new ArrayList<>();
    private final List<Fact> facts = new ArrayList<>();
    private final List<View> views = new ArrayList<>();
    private int[] axes = null;
    private boolean bare = false;

    private static void index(boolean isThere) {
        if (!isThere) {
            throw new IndexOutOfBoundsException();
        }
    }

    private static void argument(boolean isRight) {
        if (!isRight) {
            throw new IllegalArgumentException();
        }
    }

    private static void state(boolean isRight) {
        if (!isRight) {
            throw new IllegalStateException();
        }
    }

    private Dim dim(int d) {
        index(d >= 0 && d < dims.size());
        return dims.get(d);
    }

    private Dim dim(int d, int m) {
        index(m >= 0 && m < dim(d).members.size());
        return dim(d);
    }

    public int addDimension(int levels) {
        argument(levels >= 1 && levels <= 3);
        state(dims.size() < 4);
        dims.add(new Dim(levels));
        facts.clear();
        views.clear();
        axes = null;
        dims.forEach(d -> d.out.clear());
        return dims.size() - 1;
    }

    public int addMember(int d, int parent) {
        Dim dim = dim(d, parent);
        state(dim.members.get(parent).level < dim.levels && dim.members.size() < 24);
        dim.members.add(new Member(dim.members.get(parent), dim.members.size()));
        return dim.members.size() - 1;
    }

    public int move(int d, int m, int parent) {
        Dim dim = dim(d, m);
        dim(d, parent);
        argument(m != 0 && dim.members.get(parent).level == dim.members.get(m).parent.level);
        int before = dim.members.get(m).parent.number;
        int[] parents = new int[dim.members.size()];
        for (Member member : dim.members) {
            parents[member.number] = member.parent == null ? -1 : member.parent.number;
        }
        parents[m] = parent;
        Member[] again = new Member[parents.length];
        for (int i = 0; i < again.length; i++) {
            build(again, parents, i);
        }
        dim.members = new ArrayList<>(Arrays.asList(again));
        views.forEach(v -> v.stale = true);
        return before;
    }

    private static Member build(Member[] again, int[] parents, int i) {
        if (again[i] == null) {
            again[i] = new Member(parents[i] < 0 ? null : build(again, parents, parents[i]), i);
        }
        return again[i];
    }

    public int dimensions() {
        return dims.size();
    }

    public int members(int d) {
        return dim(d).members.size();
    }

    public int parentOf(int d, int m) {
        Member parent = dim(d, m).members.get(m).parent;
        return parent == null ? -1 : parent.number;
    }

    public int levelOf(int d, int m) {
        return dim(d, m).members.get(m).level;
    }

    public int memberAt(int d, int level, int place) {
        Dim dim = dim(d);
        index(level >= 0 && level <= dim.levels);
        List<Integer> list = dim.onLevel(level, 0);
        index(place >= 0 && place < list.size());
        return list.get(place);
    }

    public boolean leaveOut(int d, int m, boolean isOut) {
        Dim dim = dim(d, m);
        boolean before = dim.out.contains(m);
        if (isOut) {
            dim.out.add(m);
        } else {
            dim.out.remove(m);
        }
        return before;
    }

    public int goTo(int d, int m) {
        Dim dim = dim(d, m);
        int before = dim.point;
        dim.point = m;
        return before;
    }

    public int goUp(int d) {
        Dim dim = dim(d);
        if (dim.point == 0) {
            return -1;
        }
        dim.point = parentOf(d, dim.point);
        return dim.point;
    }

    public int pointOf(int d) {
        return dim(d).point;
    }

    public int add(int value) {
        argument(value >= -10000 && value <= 10000);
        state(!dims.isEmpty());
        for (Dim dim : dims) {
            state(dim.members.get(dim.point).level == dim.levels);
        }
        state(facts.size() < 80);
        facts.add(new Fact(dims.stream().map(d -> d.point).toList(), value));
        views.forEach(v -> v.stale = true);
        return facts.size() - 1;
    }

    public int drop(int fact) {
        index(fact >= 0 && fact < facts.size());
        views.forEach(v -> v.stale = true);
        return facts.remove(fact).value;
    }

    public int facts() {
        return facts.size();
    }

    private List<Integer> values(Predicate<Fact> of) {
        List<Integer> list = new ArrayList<>();
        for (Fact fact : facts) {
            boolean isIn = of.test(fact);
            for (int d = 0; d < dims.size(); d++) {
                int leaf = fact.leaves.get(d);
                isIn &= !dims.get(d).isOut(leaf) && dims.get(d).beneath(leaf, dims.get(d).point);
            }
            if (isIn) {
                list.add(fact.value);
            }
        }
        return list;
    }

    private static int total(List<Integer> values) {
        return values.stream().mapToInt(v -> v).sum();
    }

    public int count() {
        return values(f -> true).size();
    }

    public int sum() {
        return total(values(f -> true));
    }

    public int least() {
        return values(f -> true).stream().mapToInt(v -> v).min().orElse(0);
    }

    public int greatest() {
        return values(f -> true).stream().mapToInt(v -> v).max().orElse(0);
    }

    public double mean() {
        return values(f -> true).stream().mapToInt(v -> v).average().orElse(0);
    }

    public int children(int d) {
        return dim(d).children(dim(d).point).size();
    }

    public int sumOf(int d, int child) {
        Dim dim = dim(d);
        index(child >= 0 && child < children(d));
        int before = dim.point;
        dim.point = dim.children(before).get(child);
        int sum = sum();
        dim.point = before;
        return sum;
    }

    private List<Integer> ranking(int d) {
        List<Integer> list = new ArrayList<>();
        for (int child = 0; child < children(d); child++) {
            list.add(child);
        }
        list.sort(Comparator.comparingInt((Integer child) -> -sumOf(d, child)).thenComparingInt(child -> child));
        return list;
    }

    public int ranked(int d, int rank) {
        index(rank >= 0 && rank < children(d));
        return ranking(d).get(rank);
    }

    public int running(int d, int child) {
        index(child >= 0 && child < children(d));
        int sum = 0;
        for (int c = 0; c <= child; c++) {
            sum += sumOf(d, c);
        }
        return sum;
    }

    public int share(int d, int child) {
        index(child >= 0 && child < children(d));
        return sum() == 0 ? 0 : (int) (1000L * sumOf(d, child) / sum());
    }

    public int fewest(int d, int part) {
        dim(d);
        argument(part >= 1 && part <= 1000);
        for (int number = 0; number <= children(d); number++) {
            long together = 0;
            for (int child : ranking(d).subList(0, number)) {
                together += sumOf(d, child);
            }
            if (together * 1000 >= (long) part * sum()) {
                return number;
            }
        }
        return -1;
    }

    public int drill(int d) {
        Dim dim = dim(d);
        while (children(d) > 0) {
            dim.point = dim.children(dim.point).get(ranked(d, 0));
        }
        return dim.point;
    }

    public int setAxes(int rows, int rowLevel, int columns, int columnLevel) {
        index(rowLevel >= 0 && rowLevel <= dim(rows).levels);
        index(columnLevel >= 0 && columnLevel <= dim(columns).levels);
        argument(rows != columns);
        axes = new int[] {rows, rowLevel, columns, columnLevel};
        return rows();
    }

    public boolean setBare(boolean isOut) {
        boolean before = bare;
        bare = isOut;
        return before;
    }

    private List<Integer> allOf(int axis) {
        Dim dim = dims.get(axes[2 * axis]);
        return dim.onLevel(axes[2 * axis + 1], dim.point);
    }

    private List<Integer> valuesAt(int rowMember, int columnMember) {
        return values(f -> dims.get(axes[0]).beneath(f.leaves.get(axes[0]), rowMember)
                && dims.get(axes[2]).beneath(f.leaves.get(axes[2]), columnMember));
    }

    private List<Integer> rowList() {
        state(axes != null);
        List<Integer> list = allOf(0);
        if (bare) {
            list.removeIf(r -> allOf(1).stream().allMatch(c -> valuesAt(r, c).isEmpty()));
        }
        return list;
    }

    private List<Integer> columnList() {
        state(axes != null);
        List<Integer> list = allOf(1);
        if (bare) {
            list.removeIf(c -> allOf(0).stream().allMatch(r -> valuesAt(r, c).isEmpty()));
        }
        return list;
    }

    public int rows() {
        return rowList().size();
    }

    public int columns() {
        return columnList().size();
    }

    public int rowMember(int row) {
        index(row >= 0 & row < rows());
        return rowList().get(row);
    }

    public int columnMember(int column) {
        index(column >= 0 & column < columns());
        return columnList().get(column);
    }

    public int cell(int row, int column) {
        index(row >= 0 & row < rows());
        index(column >= 0 & column < columns());
        return total(valuesAt(rowList().get(row), columnList().get(column)));
    }

    public int peak(int row) {
        index(row >= 0 & row < rows());
        int best = -1;
        int greatest = Integer.MIN_VALUE;
        List<Integer> columns = columnList();
        for (int column = 0; column < columns.size(); column++) {
            int sum = total(valuesAt(rowList().get(row), columns.get(column)));
            if (sum > greatest) {
                greatest = sum;
                best = column;
            }
        }
        return best;
    }

    public int setLevel(int d, int level) {
        Dim dim = dim(d);
        index(level >= 0 && level <= dim.levels);
        int before = dim.level;
        dim.level = level;
        return before;
    }

    private List<Integer> levels() {
        return dims.stream().map(d -> d.level).toList();
    }

    private int cells(List<Integer> levels) {
        Set<List<Integer>> cells = new HashSet<>();
        for (Fact fact : facts) {
            List<Integer> cell = new ArrayList<>();
            for (int d = 0; d < dims.size(); d++) {
                Member at = dims.get(d).members.get(fact.leaves.get(d));
                while (at.level != levels.get(d)) {
                    at = at.parent;
                }
                cell.add(at.number);
            }
            cells.add(cell);
        }
        return cells.size();
    }

    public int cellCount() {
        return cells(levels());
    }

    public int keep() {
        state(views.size() < 6);
        View view = new View();
        view.levels = levels();
        view.rows = cells(view.levels);
        views.add(view);
        return views.size() - 1;
    }

    private View view(int v) {
        index(v >= 0 && v < views.size());
        return views.get(v);
    }

    public int dropView(int v) {
        views.remove(view(v));
        return views.size();
    }

    public int refresh(int v) {
        view(v).rows = cells(view(v).levels);
        view(v).stale = false;
        return view(v).rows;
    }

    public int views() {
        return views.size();
    }

    public int rowsOf(int v) {
        return view(v).rows;
    }

    public boolean isStale(int v) {
        return view(v).stale;
    }

    private static boolean atLeast(List<Integer> levels, List<Integer> asked) {
        for (int d = 0; d < asked.size(); d++) {
            if (levels.get(d) < asked.get(d)) {
                return false;
            }
        }
        return true;
    }

    private int answeredBy(List<Integer> asked) {
        int best = -1;
        for (int v = views.size() - 1; v >= 0; v--) {
            View view = views.get(v);
            int least = best < 0 ? facts.size() - 1 : views.get(best).rows;
            if (!view.stale && atLeast(view.levels, asked) && view.rows <= least) {
                best = v;
            }
        }
        return best;
    }

    private int cost(List<Integer> asked) {
        return answeredBy(asked) < 0 ? facts.size() : views.get(answeredBy(asked)).rows;
    }

    public int cost() {
        return cost(levels());
    }

    public int answeredBy() {
        return answeredBy(levels());
    }

    /** All LEVELS, those with the smallest level in dimension 0 first, then in dimension 1, and so on. */
    private List<List<Integer>> allLevels() {
        List<List<Integer>> all = new ArrayList<>(List.of(List.of()));
        for (Dim dim : dims) {
            List<List<Integer>> longer = new ArrayList<>();
            for (List<Integer> some : all) {
                for (int level = 0; level <= dim.levels; level++) {
                    List<Integer> one = new ArrayList<>(some);
                    one.add(level);
                    longer.add(one);
                }
            }
            all = longer;
        }
        return all;
    }

    private int gain(List<Integer> levels) {
        int cells = cells(levels);
        int gain = 0;
        for (List<Integer> asked : allLevels()) {
            if (atLeast(levels, asked) && cells < cost(asked)) {
                gain += cost(asked) - cells;
            }
        }
        return gain;
    }

    public int gain() {
        return gain(levels());
    }

    public int advise() {
        int best = -1;
        List<Integer> advice = null;
        for (List<Integer> some : allLevels()) {
            if (gain(some) > best) {
                best = gain(some);
                advice = some;
            }
        }
        for (int d = 0; d < dims.size(); d++) {
            dims.get(d).level = advice.get(d);
        }
        return best;
    }

    public long digest() {
        List<Integer> v = new ArrayList<>(List.of(dimensions()));
        for (int d = 0; d < dims.size(); d++) {
            v.add(members(d));
            for (int m = 0; m < members(d); m++) {
                v.addAll(List.of(parentOf(d, m), levelOf(d, m)));
            }
            v.addAll(List.of(pointOf(d), dims.get(d).level));
        }
        v.addAll(List.of(facts(), count(), sum(), least(), greatest()));
        for (int d = 0; d < dims.size(); d++) {
            v.add(children(d));
            v.addAll(ranking(d));
        }
        if (axes != null) {
            v.addAll(List.of(rows(), columns()));
            v.addAll(rowList());
            v.addAll(columnList());
            for (int row : rowList()) {
                for (int column : columnList()) {
                    v.add(total(valuesAt(row, column)));
                }
            }
        }
        v.add(views());
        for (View view : views) {
            v.addAll(List.of(view.rows, view.stale ? 1 : 0));
        }
        v.addAll(List.of(cellCount(), cost(), answeredBy(), gain()));
        long d = 2539;
        for (int one : v) {
            d = d * 31 + one;
        }
        return d;
    }
}
