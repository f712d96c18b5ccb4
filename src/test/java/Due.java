/** Counts the answers that are not as due; every test makes one and ends with it. */
final class Due {
    private final String test;
    private int checks;
    private int wrong;

    Due(String test) {
        this.test = test;
    }

    void answers(String call, long got, long want) {
        checks++;
        if (got != want) {
            wrong++;
            System.out.println(test + ": " + call + " answered " + got + ", due is " + want);
        }
    }

    void answers(String call, boolean got, boolean want) {
        answers(call, got ? 1 : 0, want ? 1 : 0);
    }

    void refuses(String call, Class<? extends RuntimeException> want, Runnable run) {
        checks++;
        String got = "nothing";
        try {
            run.run();
        } catch (RuntimeException e) {
            got = e.getClass().getName();
        }
        if (!got.equals(want.getName())) {
            wrong++;
            System.out.println(test + ": " + call + " threw " + got + ", due is " + want.getName());
        }
    }

    /** A fault that no single answer tells. */
    void fault(String text) {
        checks++;
        wrong++;
        System.out.println(test + ": " + text);
    }

    void end() {
        System.out.println(test + ": " + checks + " checks, " + wrong + " wrong");
        if (wrong != 0 || checks == 0) {
            System.exit(1);
        }
    }
}
