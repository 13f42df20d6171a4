import java.util.Objects;

/** What the tests expect: prints every answer that is not the one that is due, and ends with exit code 1 if there was one. */
final class Check {
    private int asked = 0;
    private int wrong = 0;

    void due(String call, Object got, Object want) {
        asked++;
        if (!Objects.equals(got, want)) {
            wrong++;
            System.out.println(call + " answered " + got + ", due is " + want);
        }
    }

    /** The call throws just this exception, by a throw of the program's own, and changes nothing that can be told. */
    void refused(String call, PurseWorld world, Class<? extends RuntimeException> want, Runnable body) {
        String before = Snapshot.of(world);
        Object got = "nothing";
        String thrower = "nobody";
        try {
            body.run();
        } catch (RuntimeException e) {
            got = e.getClass();
            thrower = e.getStackTrace()[0].getClassName();
        }
        due(call + " throws", got, want);
        due(call + " is refused by", thrower, "PurseWorld");
        due("all that can be told after " + call, Snapshot.of(world), before);
    }

    void end() {
        System.out.println(wrong == 0 ? asked + " answers are as due" : wrong + " answers are not as due");
        if (wrong != 0) {
            System.exit(1);
        }
    }
}
