import java.lang.reflect.Method;
import java.util.Objects;
import java.util.TreeMap;
import java.util.function.IntConsumer;

/** What the tests expect: prints every answer that is not the one that is due, and ends with exit code 1 if there was one. */
final class Check {
    private String test = "";
    private int asked = 0;
    private int wrong = 0;

    /** Runs every method whose name begins with promise, so that none can be written and forgotten. */
    void runPromises(Class<?> tests) {
        TreeMap<String, Method> found = new TreeMap<>();
        for (Method m : tests.getDeclaredMethods()) {
            if (m.getName().startsWith("promise")) {
                found.put(m.getName(), m);
            }
        }
        for (Method m : found.values()) {
            test = m.getName() + ": ";
            try {
                m.invoke(null);
            } catch (ReflectiveOperationException e) {
                due("the test ends by", e.getCause() == null ? e : e.getCause(), "itself");
            }
        }
        due("how many tests there are", found.isEmpty(), false);
        end();
    }

    void due(String call, Object got, Object want) {
        asked++;
        if (!Objects.equals(got, want)) {
            wrong++;
            System.out.println(test + call + " answered " + got + ", due is " + want);
        }
    }

    /** The call throws just this exception, by a throw of the program's own, and changes nothing that can be told. */
    void refused(String call, Run world, Class<? extends RuntimeException> want, Runnable body) {
        String before = Snapshot.of(world);
        Object got = "nothing";
        String thrower = "nobody";
        try {
            body.run();
        } catch (RuntimeException e) {
            got = e.getClass();
            thrower = e.getStackTrace()[0].getClassName();
        }
        due(call + " throws", got, want);
        due(call + " is refused by", thrower, "PurseWorld");
        due("all that can be told after " + call, Snapshot.of(world), before);
    }

    /**
     * Both sides of the bounds of one argument: the call answers for the first and the last that there are,
     * and is refused for those next to them and for the farthest. With last = first - 1 there are none.
     */
    void bounds(String call, Run world, int first, int last, Class<? extends RuntimeException> outside, IntConsumer body) {
        if (first <= last) {
            answered(call + " of " + first, () -> body.accept(first));
            answered(call + " of " + last, () -> body.accept(last));
        }
        for (int far : new int[] {first - 1, last + 1, Integer.MIN_VALUE, Integer.MAX_VALUE}) {
            refused(call + " of " + far, world, outside, () -> body.accept(far));
        }
    }

    private void answered(String call, Runnable body) {
        Object got = "nothing";
        try {
            body.run();
        } catch (RuntimeException e) {
            got = e.getClass();
        }
        due(call + " throws", got, "nothing");
    }

    void end() {
        System.out.println(wrong == 0 ? asked + " answers are as due" : wrong + " answers are not as due");
        if (wrong != 0) {
            System.exit(1);
        }
    }
}
