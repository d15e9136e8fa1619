/** Counts and prints the answers that are not the ones that are due. */
final class Check {
    private final String title;
    private int asked = 0;
    private int wrong = 0;

    Check(String title) {
        this.title = title;
    }

    void due(String what, long got, long want) {
        asked++;
        if (got != want) {
            report(what + " answered " + got + ", due is " + want);
        }
    }

    void due(String what, boolean got, boolean want) {
        asked++;
        if (got != want) {
            report(what + " answered " + got + ", due is " + want);
        }
    }

    void dueDouble(String what, double got, double want) {
        asked++;
        if (Double.compare(got, want) != 0) {
            report(what + " answered " + got + ", due is " + want);
        }
    }

    /** The call has to throw exactly this, and to leave all that can be asked as it was. */
    void refused(String what, RiverNames x, Class<? extends RuntimeException> due, Runnable call) {
        asked++;
        long before = Answers.of(x);
        String thrown = "nothing";
        try {
            call.run();
        } catch (RuntimeException e) {
            thrown = e.getClass().getSimpleName();
        }
        if (!thrown.equals(due.getSimpleName())) {
            report(what + " threw " + thrown + ", due is " + due.getSimpleName());
        }
        if (Answers.of(x) != before) {
            report(what + " was refused but changed something");
        }
    }

    void report(String text) {
        wrong++;
        System.out.println(title + ": " + text);
    }

    void end() {
        System.out.println(title + ": " + asked + " answers, " + wrong + " not as due");
        if (wrong != 0) {
            System.exit(1);
        }
    }
}
