import java.lang.reflect.InvocationTargetException;
import java.lang.reflect.Method;
import java.util.ArrayList;
import java.util.Arrays;
import java.util.Collections;
import java.util.List;
import java.util.Random;

/**
 * Runs of 512 calls, chosen by fixed seeds, on the program and on the model: each call answers the same, or
 * throws the same. Now and then both tell their digest, and the last calls of a run are questions, drawn from
 * all that can be asked, so that a change that a call made but should not have made is found too.
 */
public final class RandomRunsTest {
    private static final int RUNS = 1500;
    private static final int CALLS = 512;
    private static final int CALLS_BETWEEN_DIGESTS = 8;
    private static final int FEWEST_QUESTIONS = 40;
    private static final int MAX_PRINTED = 20;

    private final Random random;
    private final int run;
    private final EbbTable program = new EbbTable();
    private final Model model = new Model();
    private final List<String> trail = new ArrayList<>();
    private final List<Object[]> questions = new ArrayList<>();
    private boolean isSame = true;
    private static int printed = 0;
    private static int refusals = 0;

    private RandomRunsTest(int run) {
        this.run = run;
        this.random = new Random(run);
    }

    public static void main(String[] args) {
        for (int run = 0; run < RUNS; run++) {
            RandomRunsTest test = new RandomRunsTest(run);
            test.play();
            Check.holds("run " + run + " is as the model says", test.isSame);
        }
        Check.holds("calls were refused too: " + refusals, refusals > RUNS * 10);
        Check.end("RandomRunsTest");
    }

    private void play() {
        if (run % 4 != 0) {
            furnish();
        }
        int change = CALLS - FEWEST_QUESTIONS - random.nextInt(100);
        for (int call = 0; trail.size() < change && isSame; call++) {
            randomCall();
            if (call % CALLS_BETWEEN_DIGESTS == 0) {
                both("digest");
            }
        }
        askTillTheLastCall();
    }

    /** Dimensions, members and facts ahead of the random calls, so that these have something to work on. */
    private void furnish() {
        int dimensions = 1 + random.nextInt(4);
        for (int d = 0; d < dimensions; d++) {
            both("addDimension", 1 + random.nextInt(3));
        }
        int members = run % 3 == 0 ? 90 : 30;
        for (int i = 0; i < members; i++) {
            int d = random.nextInt(dimensions);
            both("addMember", d, random.nextInt(model.members(d)));
        }
        int facts = run % 3 == 1 ? 100 : 25;
        for (int i = 0; i < facts && trail.size() < CALLS - 150; i++) {
            goToLeaves();
            for (int again = random.nextInt(3); again >= 0; again--) {
                both("add", value());
            }
        }
        for (int d = 0; d < dimensions; d++) {
            both("goTo", d, 0);
        }
    }

    private void goToLeaves() {
        for (int d = 0; d < model.dimensions(); d++) {
            int leaf = aLeafOf(d);
            if (random.nextInt(3) > 0 || !isLeaf(d, model.pointOf(d))) {
                both("goTo", d, leaf);
            }
        }
    }

    private int aLeafOf(int d) {
        int leaf = random.nextInt(model.members(d));
        for (int i = 0; i < 30 && !isLeaf(d, leaf); i++) {
            leaf = random.nextInt(model.members(d));
        }
        return leaf;
    }

    private boolean isLeaf(int d, int m) {
        try {
            model.memberAt(d, model.levelOf(d, m) + 1, Integer.MAX_VALUE);
            return false;
        } catch (IndexOutOfBoundsException e) {
            return !hasLevel(d, model.levelOf(d, m) + 1);
        }
    }

    private boolean hasLevel(int d, int level) {
        try {
            int before = model.setLevel(d, level);
            model.setLevel(d, before);
            return true;
        } catch (IndexOutOfBoundsException e) {
            return false;
        }
    }

    private int value() {
        return switch (random.nextInt(6)) {
            case 0 -> random.nextInt(20001) - 10000;
            case 1 -> random.nextBoolean() ? 10000 : -10000;
            default -> random.nextInt(21) - 8;
        };
    }

    private void randomCall() {
        int d = near(model.dimensions());
        int members = d >= 0 && d < model.dimensions() ? model.members(d) : 3;
        switch (random.nextInt(60)) {
            case 0 -> rarely("addDimension", random.nextInt(6) - 1);
            case 1, 2, 3 -> both("addMember", d, near(members));
            case 4, 5, 6 -> both("move", d, near(members), near(members));
            case 7 -> both("memberAt", d, random.nextInt(6) - 1, near(members / 2));
            case 8, 9 -> both("leaveOut", d, near(members), random.nextInt(3) == 0);
            case 10, 11, 12, 13 -> both("goTo", d, near(members));
            case 14, 15, 16 -> both("goUp", d);
            case 17 -> addSomewhere();
            case 18 -> both("add", random.nextInt(24001) - 12000);
            case 19 -> both("drop", near(model.facts()));
            case 20, 21 -> both("drill", d);
            case 22 -> both("ranked", d, near(childrenOf(d)));
            case 23 -> both("sumOf", d, near(childrenOf(d)));
            case 24 -> both("running", d, near(childrenOf(d)));
            case 25, 26 -> both("share", d, near(childrenOf(d)));
            case 27, 28 -> both("fewest", d, random.nextInt(1004) - 1);
            case 29, 30 -> both("setAxes", d, random.nextInt(6) - 1, near(model.dimensions()), random.nextInt(5));
            case 31 -> both("setBare", random.nextBoolean());
            case 32, 33 -> both("cell", near(6), near(6));
            case 34 -> both("peak", near(6));
            case 35 -> both("rowMember", near(6));
            case 36 -> both("columnMember", near(6));
            case 37, 38, 39, 40 -> both("setLevel", d, random.nextInt(5) - (random.nextInt(9) == 0 ? 1 : 0));
            case 41, 42 -> both("keep");
            case 43 -> both("dropView", near(model.views()));
            case 44, 45, 46, 47 -> both("refresh", near(model.views()));
            case 48 -> both("advise");
            case 49 -> both(random.nextBoolean() ? "rows" : "columns");
            default -> anything();
        }
    }

    private void rarely(String name, Object argument) {
        if (random.nextInt(4) == 0 || model.dimensions() == 0) {
            both(name, argument);
        }
    }

    private void addSomewhere() {
        goToLeaves();
        both("add", value());
        for (int d = 0; d < model.dimensions(); d++) {
            for (int i = random.nextInt(3); i > 0; i--) {
                both("goUp", d);
            }
        }
    }

    private void anything() {
        String[] names = {"dimensions", "facts", "count", "sum", "least", "greatest", "mean", "views", "cellCount",
            "cost", "answeredBy", "gain", "digest"};
        both(names[random.nextInt(names.length)]);
    }

    private int childrenOf(int d) {
        return d >= 0 && d < model.dimensions() ? model.children(d) : 2;
    }

    /** Mostly a number that is there, sometimes one just beside, or far off. */
    private int near(int size) {
        int[] off = {-1, size, size + 1, Integer.MIN_VALUE, Integer.MAX_VALUE, 24, 80};
        boolean isOff = random.nextInt(25) == 0 || size <= 0;
        return isOff ? off[random.nextInt(off.length)] : random.nextInt(size);
    }

    private void askTillTheLastCall() {
        questionsOfAll();
        for (int d = -1; d <= model.dimensions(); d++) {
            questionsOfDimension(d);
        }
        Collections.shuffle(questions, random);
        for (Object[] question : questions) {
            if (trail.size() < CALLS) {
                both((String) question[0], Arrays.copyOfRange(question, 1, question.length));
            }
        }
    }

    private void question(Object... nameAndArguments) {
        questions.add(nameAndArguments);
    }

    private void questionsOfAll() {
        for (String name : new String[] {"dimensions", "facts", "count", "sum", "least", "greatest", "mean", "rows",
            "columns", "cellCount", "views", "cost", "answeredBy", "gain", "digest"}) {
            question(name);
        }
        for (int line = -1; line < 26; line += line < 2 ? 1 : 7) {
            for (String name : new String[] {"rowMember", "columnMember", "peak"}) {
                question(name, line);
            }
            question("cell", line, line / 2);
        }
        for (int view = -1; view <= model.views(); view++) {
            question("rowsOf", view);
            question("isStale", view);
        }
    }

    private void questionsOfDimension(int d) {
        question("members", d);
        question("pointOf", d);
        question("children", d);
        int members = d >= 0 && d < model.dimensions() ? model.members(d) : 1;
        for (int m = -1; m <= members; m++) {
            question("parentOf", d, m);
            question("levelOf", d, m);
        }
        for (int level = -1; level < 5; level++) {
            for (int place = -1; place < 25; place += 5) {
                question("memberAt", d, level, place);
            }
        }
        int children = childrenOf(d);
        for (int child = -1; child <= children; child++) {
            for (String name : new String[] {"sumOf", "ranked", "running", "share"}) {
                question(name, d, child);
            }
        }
        for (int part : new int[] {0, 1, 500, 999, 1000, 1001}) {
            question("fewest", d, part);
        }
    }

    private void both(String name, Object... arguments) {
        if (!isSame) {
            return;
        }
        String call = name + Arrays.toString(arguments);
        trail.add(call);
        Object due = answer(model, name, arguments);
        Object got = answer(program, name, arguments);
        if (due instanceof String) {
            refusals++;
        }
        isSame = due.equals(got);
        if (!isSame && printed < MAX_PRINTED) {
            printed++;
            System.out.println("run " + run + ": " + call + " answered " + got + ", due is " + due);
            System.out.println("    behind " + trail.subList(Math.max(0, trail.size() - 12), trail.size()));
        }
    }

    private static Object answer(Object of, String name, Object[] arguments) {
        try {
            for (Method method : of.getClass().getMethods()) {
                if (method.getName().equals(name)) {
                    return method.invoke(of, arguments);
                }
            }
        } catch (InvocationTargetException e) {
            return "throws " + e.getCause().getClass().getName();
        } catch (IllegalAccessException e) {
            return "is out of reach";
        }
        return "is not there";
    }
}
