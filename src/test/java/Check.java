import java.util.function.Consumer;
import java.util.function.Supplier;

/** Counts and prints the answers that are not the ones that are due. */
final class Check {
    private final String title;
    private int asked = 0;
    private int wrong = 0;

    Check(String title) {
        this.title = title;
    }

    void due(String what, long got, long want) {
        asked++;
        if (got != want) {
            report(what + " answered " + got + ", due is " + want);
        }
    }

    void due(String what, boolean got, boolean want) {
        asked++;
        if (got != want) {
            report(what + " answered " + got + ", due is " + want);
        }
    }

    void dueDouble(String what, double got, double want) {
        asked++;
        if (Double.compare(got, want) != 0) {
            report(what + " answered " + got + ", due is " + want);
        }
    }

    /**
     * The call has to throw exactly this, and to leave everything as it was: of two objects made
     * alike, the one that refused it has to answer all that follows as the other one does.
     */
    void refused(String what, Supplier<RiverNames> made, Class<? extends RuntimeException> due,
            Consumer<RiverNames> call) {
        asked++;
        RiverNames x = made.get();
        String thrown = "nothing";
        try {
            call.accept(x);
        } catch (RuntimeException e) {
            thrown = e.getClass().getName();
        }
        if (!thrown.equals(due.getName())) {
            report(what + " threw " + thrown + ", due is " + due.getName());
        }
        if (Answers.ofAllThatFollows(x) != Answers.ofAllThatFollows(made.get())) {
            report(what + " was refused but changed something");
        }
    }

    void report(String text) {
        wrong++;
        System.out.println(title + ": " + text);
    }

    void end() {
        System.out.println(title + ": " + asked + " answers, " + wrong + " not as due");
        if (wrong != 0) {
            System.exit(1);
        }
    }
}
