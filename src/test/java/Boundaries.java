import java.lang.reflect.InvocationTargetException;
import java.lang.reflect.Method;
import java.util.ArrayList;
import java.util.Arrays;
import java.util.Comparator;
import java.util.List;
import java.util.function.Consumer;
import java.util.function.IntUnaryOperator;
import java.util.function.Supplier;
import java.util.regex.Matcher;
import java.util.regex.Pattern;

/**
 * What the tests of boundary cases share. Each such test is a method promiseNN_call_boundary, so that a failure names
 * the promise and the boundary. No object is used for more than 512 calls: what it answers then is free.
 */
class Boundaries {
    static final int BAD = -1, NO = -2, FULL = -3, NONE = -4, FAR_BAD = -1000000, FAR_NO = -1000002;
    static final int LEAST = Integer.MIN_VALUE, MOST = Integer.MAX_VALUE;

    // By judge 0 the order is 1 2 3 0, by judge 1 it is 3 1 0 2, by judge 2 (at first) 3 1 2 0.
    static final String WORLD = "w100,10,0;w200,5,1;w150,0,1;w150,20,2;"
        + "j0,0,0;j5,0,0;j0,9,0;p1,2,1;c50;h3,2;f2,4;l2;";

    private static final String[] CALLS = {"", "new", "write", "wipe", "fault", "lay", "mark", "order", "tell", "both",
        "coin", "drawn", "chance", "brings", "cost", "line", "even", "later", "hair", "golden", "year", "writer", "now",
        "having", "keep", "back", "count"};
    private static final Pattern NAME = Pattern.compile("promise(\\d\\d)_([a-z]+)_\\w+");

    /** Runs all tests of a class that is to have some for each of these promises. */
    static void runAll(Class<?> tests, int firstPromise, int lastPromise) {
        Check check = new Check();
        int[] found = new int[CALLS.length];
        Method[] methods = tests.getDeclaredMethods();
        Arrays.sort(methods, Comparator.comparing(Method::getName));
        for (Method m : methods) {
            Matcher name = NAME.matcher(m.getName());
            if (name.matches()) {
                int promise = Integer.parseInt(name.group(1));
                check.about(m.getName());
                check.due("the call of promise " + promise, CALLS[promise].equals(name.group(2)) ? 1 : 0, 1);
                runOne(m, check);
                found[promise]++;
            }
        }
        check.about(tests.getName());
        for (int promise = firstPromise; promise <= lastPromise; promise++) {
            check.due("a test of promise " + promise, found[promise] > 0 ? 1 : 0, 1);
        }
        check.end(tests.getName());
    }

    private static void runOne(Method m, Check check) {
        int before = check.asked();
        try {
            m.setAccessible(true);
            m.invoke(null, check);
        } catch (InvocationTargetException e) {
            e.getCause().printStackTrace(System.out);
            check.due("an exception", 1, 0);
        } catch (IllegalAccessException e) {
            check.due("no way to run it", 1, 0);
        }
        check.due("asks something", check.asked() > before ? 1 : 0, 1);
    }

    /** A call with one of its numbers left open answers the same to all of these. */
    static void all(Check c, int want, IntUnaryOperator call, int... numbers) {
        for (int number : numbers) {
            c.due("with " + number, call.applyAsInt(number), want);
        }
    }

    /** None of these numbers is refused as BAD. */
    static void notBad(Check c, IntUnaryOperator call, int... numbers) {
        for (int number : numbers) {
            int answer = call.applyAsInt(number);
            c.due("with " + number + " refused", answer == BAD || answer == FAR_BAD ? 1 : 0, 0);
        }
    }

    /** So many plans, by judge 0 in the order 0 1 2 .., by judge 1 the other way about; writers 0 to 7 in turn. */
    static String ladder(int plans) {
        StringBuilder s = new StringBuilder();
        for (int i = 0; i < plans; i++) {
            s.append("w" + (plans - i) + "," + i + "," + i % 8 + ";");
        }
        return s + "j0,0,0;j2,0,0;";
    }

    /** As many plans of one kind, a judge without leanings, and what else is told. */
    static String like(int plans, String plan, String rest) {
        return plan.repeat(plans) + "j0,0,0;" + rest;
    }

    /** So many years by a panel. */
    static PursesByLot after(int years, int panel, String text) {
        PursesByLot x = Check.laid(text);
        for (int y = 0; y < years; y++) {
            x.year(panel);
        }
        return x;
    }

    /** An object with something of everything: LATER, years, two KEPT, and a TEXT that is not the LAID one. */
    static PursesByLot lived() {
        PursesByLot x = Check.laid(WORLD);
        for (int i = 0; i < 4; i++) {
            x.later(i, 10 + i);
        }
        x.year(1);
        x.keep();
        x.year(4);
        x.keep();
        x.year(2);
        Check.tell(x, "w5,5,5;");
        return x;
    }

    /** What is done to one of two like objects leaves nothing that the other does not show too. */
    static void unchanged(Check c, Supplier<PursesByLot> maker, Consumer<PursesByLot> done) {
        PursesByLot x = maker.get();
        done.accept(x);
        c.due("all that is seen", spend(x), spend(maker.get()));
    }

    static void unchanged(Check c, Consumer<PursesByLot> done) {
        unchanged(c, Boundaries::lived, done);
    }

    /** All that can be seen of an object, also what is KEPT and what its TEXT would lay; it is used up by that. */
    static int[] spend(PursesByLot x) {
        List<Integer> seen = new ArrayList<>();
        look(x, seen);
        // One more than can be KEPT, so that the refusal is seen too.
        for (int i = 0; i < 3; i++) {
            seen.add(x.back());
            look(x, seen);
        }
        for (int i = 0; i < x.count(0); i++) {
            seen.add(x.later(i, 0));
        }
        seen.add(x.fault());
        seen.add(x.lay());
        look(x, seen);
        return seen.stream().mapToInt(Integer::intValue).toArray();
    }

    private static void look(PursesByLot x, List<Integer> seen) {
        for (int what = 0; what < 5; what++) {
            seen.add(x.count(what));
        }
        seen.add(x.now(0));
        seen.add(x.now(1));
        for (int w = 0; w < 8; w++) {
            for (int what = 0; what < 3; what++) {
                seen.add(x.writer(w, what));
            }
        }
        int everyone = (1 << x.count(1)) - 1;
        for (int rank = -1; rank < 4; rank++) {
            seen.add(x.order(everyone, 3, rank));
        }
        seen.add(x.cost(everyone, 3, 1));
        seen.add(x.brings(everyone, 3, 2));
    }
}
