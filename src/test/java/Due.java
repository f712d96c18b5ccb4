/** Counts the answers that are not as due; every test makes one and ends with it. */
final class Due {
    private final String test;
    private String sentence = "";
    private int checks;
    private int wrong;

    Due(String test) {
        this.test = test;
    }

    /** The words of the document that the next checks hold to; a fault is told with them. */
    void sentence(String words) {
        sentence = " [" + words + "]";
    }

    void answers(String call, long got, long want) {
        checks++;
        if (got != want) {
            tell(call + " answered " + got + ", due is " + want);
        }
    }

    void answers(String call, boolean got, boolean want) {
        answers(call, got ? 1 : 0, want ? 1 : 0);
    }

    void answers(String call, String got, String want) {
        checks++;
        if (!got.equals(want)) {
            tell(call + " is" + System.lineSeparator() + got + System.lineSeparator() + "due is"
                    + System.lineSeparator() + want);
        }
    }

    void refuses(String call, Class<? extends RuntimeException> want, Runnable run) {
        checks++;
        String got = "nothing";
        try {
            run.run();
        } catch (RuntimeException e) {
            got = e.getClass().getName();
        }
        if (!got.equals(want.getName())) {
            tell(call + " threw " + got + ", due is " + want.getName());
        }
    }

    /** A fault that no single answer tells. */
    void fault(String text) {
        checks++;
        tell(text);
    }

    void end() {
        System.out.println(test + ": " + checks + " checks, " + wrong + " wrong");
        if (wrong != 0 || checks == 0) {
            System.exit(1);
        }
    }

    private void tell(String text) {
        wrong++;
        System.out.println(test + sentence + ": " + text);
    }
}
