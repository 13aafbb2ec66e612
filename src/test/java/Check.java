/** What the tests share: it prints each answer that is not due, and counts them. */
final class Check {
    private int asked = 0;
    private int wrong = 0;

    interface Call {
        long ask();
    }

    void due(String call, long got, long want) {
        asked++;
        if (got != want) {
            tell(call + " answered " + got + ", due is " + want);
        }
    }

    void due(String call, boolean got, boolean want) {
        due(call, got ? 1L : 0L, want ? 1L : 0L);
    }

    /** The very class is asked for: what the machine throws is often a class below it. */
    void dueThrow(String call, Class<? extends RuntimeException> want, Call made) {
        asked++;
        try {
            long got = made.ask();
            tell(call + " answered " + got + ", due is " + want.getName());
        } catch (RuntimeException e) {
            if (e.getClass() != want) {
                tell(call + " threw " + e.getClass().getName() + ", due is " + want.getName());
            }
        }
    }

    void tell(String fault) {
        wrong++;
        if (wrong <= 40) {
            System.out.println(fault);
        }
    }

    boolean isClean() {
        return wrong == 0;
    }

    void end() {
        if (wrong != 0) {
            System.out.println(wrong + " of " + asked + " answers are not as due");
            System.exit(1);
        }
        System.out.println(asked + " answers are as due");
    }
}
