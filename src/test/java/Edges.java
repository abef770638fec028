import java.lang.reflect.Method;
import java.util.ArrayList;
import java.util.Comparator;
import java.util.List;
import java.util.TreeSet;
import java.util.function.ToLongFunction;

/**
 * Runs a class's tests of edges: each is a static method whose name begins with its promise
 * ("promise04LengthBelow0"), one for each sentence of the document that names an edge.
 */
final class Edges {
    static final String CLASSIC = "win worth-mine;lose 0-mine;tie worth/2-mine;";
    // 0 wants to put in the same, 1 another SUM: chances of one half with a PURSE of 1.
    static final String PENNIES = "tie 1-who;win who;lose who;";
    // 1 beats 0, 2 beats 1, 0 beats 2.
    static final String THIRDS =
        "tie 0;win 1 if mine-other=1;win 0-1;lose 0-1 if other-mine=1;lose 1;";
    // Numbers that no call has a use for, however it counts.
    static final int[] FAR = {Integer.MIN_VALUE, Integer.MIN_VALUE + 1, Integer.MAX_VALUE - 1, Integer.MAX_VALUE};

    private static String running = "";
    private static int asked = 0;
    private static int wrong = 0;

    private Edges() { }

    static void due(String call, long got, long want) {
        asked++;
        if (got != want) {
            wrong++;
            System.out.println(running + ": " + call + " answered " + got + ", due is " + want);
        }
    }

    static void due(String call, boolean got, boolean want) {
        due(call, got ? 1 : 0, want ? 1 : 0);
    }

    static void same(String call, String got, String want) {
        asked++;
        if (!got.equals(want)) {
            wrong++;
            System.out.println(running + ": behind " + call + " it stands\n  " + got + "\nbut before\n  " + want);
        }
    }

    /** Runs all tests of a class, which is to have one at least for each promise from first to last. */
    static void runAll(Class<?> tests, int first, int last) throws ReflectiveOperationException {
        List<Method> found = new ArrayList<>();
        TreeSet<Integer> missing = new TreeSet<>();
        for (int promise = first; promise <= last; promise++) {
            missing.add(promise);
        }
        for (Method method : tests.getDeclaredMethods()) {
            if (method.getName().matches("promise[0-9]{2}[A-Z].*")) {
                method.setAccessible(true);
                found.add(method);
                missing.remove(Integer.parseInt(method.getName().substring(7, 9)));
            }
        }
        found.sort(Comparator.comparing(Method::getName));
        for (Method method : found) {
            running = method.getName();
            int before = asked;
            method.invoke(null);
            if (asked == before) {
                wrong++;
                System.out.println(running + " asks for nothing");
            }
        }
        missing.forEach(promise -> System.out.println("no test for promise " + promise));
        boolean isGood = wrong == 0 && missing.isEmpty();
        System.out.println(tests.getName() + ": " + found.size() + " tests, " + asked + " answers, "
            + (isGood ? "all as due" : "WRONG"));
        if (!isGood) {
            System.exit(1);
        }
    }

    /** An object with these CONTESTS, and PLAYERS 0 and 1 with these WORTHS and PURSES. */
    static HoldOuts two(int worth0, int purse0, int worth1, int purse1, String... texts) {
        HoldOuts x = Texts.with(texts);
        due("player(0)", x.player(0, worth0, purse0), true);
        due("player(1)", x.player(1, worth1, purse1), true);
        return x;
    }

    /** A call that is refused: its answer is due, and all stands as before. */
    static void refused(String call, ToLongFunction<HoldOuts> made, long want) {
        HoldOuts x = busy();
        String before = stateOf(x);
        due(call, made.applyAsLong(x), want);
        same(call, stateOf(x), before);
    }

    static long number(boolean answer) {
        return answer ? 1 : 0;
    }

    /** What an object tells of its state, by some fifty calls, to see that a refused one does nothing. */
    static String stateOf(HoldOuts x) {
        StringBuilder all = new StringBuilder("counts");
        for (int what = 0; what < 12; what++) {
            all.append(' ').append(x.count(what));
        }
        all.append(", fault ").append(x.fault()).append(", ways ").append(x.way(0)).append(' ').append(x.way(1));
        all.append(", parts");
        for (int sum = 0; sum < 8; sum++) {
            all.append(' ').append(x.part(0, 0, sum)).append(' ').append(x.part(0, 1, sum));
        }
        all.append(", sorted");
        for (int what = 0; what < 4; what++) {
            all.append(' ').append(x.sorted(0, 0, what));
        }
        all.append(", rests ").append(x.rests(0)).append(' ').append(x.rests(1));
        all.append(", gets ").append(x.gets(0, 0, 2, 1)).append(' ').append(x.gets(0, 1, 2, 1))
            .append(' ').append(x.gets(0, 2, 2, 1)).append(' ').append(x.gets(1, 0, 2, 1))
            .append(' ').append(x.three(0, 0)).append(' ').append(x.idle(0))
            .append(' ').append(x.worth(0, 0)).append(' ').append(x.worth(0, 1))
            .append(' ').append(x.judge(0)).append(' ').append(x.least(0)).append(' ').append(x.run(0, 5, 9, 4));
        return all.toString();
    }

    /** An object of which each part of the state is told, so that stateOf() shows a change in any. */
    static HoldOuts busy() {
        HoldOuts x = two(6, 2, 4, 2, CLASSIC);
        x.player(2, 5, 1);
        x.lot(0, 0, 300);
        x.lot(0, 2, 700);
        x.sure(1, 1);
        x.sort(0, 6, 400);
        x.sort(0, 3, 600);
        x.sort(1, 4, 1000);
        x.feed(1, 2, 3, 4, 5);
        return x;
    }
}
