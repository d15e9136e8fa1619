/**
 * One number for all that an object answers from now on: what it is asked, what would be, and what
 * comes of further calls, so that what is not seen now (a rule, a delta, a swell) shows as well. It
 * uses the object up; with what was done before it stays below the 512 calls of the document.
 */
final class Answers {
    private final RiverNames x;
    private long sum = 0;

    private Answers(RiverNames x) {
        this.x = x;
    }

    static long ofAllThatFollows(RiverNames x) {
        Answers answers = new Answers(x);
        answers.ask();
        answers.grow();
        answers.turnRules();
        answers.turnDeltas();
        answers.turnDeltas();
        answers.letYearsGoBy();
        return answers.sum;
    }

    private void add(long number) {
        sum = sum * 1_000_003L + number;
    }

    private void ask() {
        add(x.digest());
        add(Double.doubleToLongBits(x.meanMouth()));
        for (int place = 0; place < x.places(); place++) {
            add(x.yearsUntilRenamed(place));
            add(x.renamedByDelta(place));
            add(x.nameIn(place, 1));
            add(x.nameIn(place, 50));
        }
    }

    private void grow() {
        if (x.places() < 16) {
            add(x.addPlace());
        }
        if (x.bridges() < 16) {
            add(x.build(x.places() - 1));
        }
        add(x.digest());
    }

    private void turnRules() {
        add(x.setRule(1));
        add(x.digest());
        add(x.setRule(0));
        add(x.digest());
    }

    private void turnDeltas() {
        for (int place = 0; place < x.places(); place++) {
            add(x.turnDelta(place) ? 1 : 0);
        }
        add(x.digest());
    }

    private void letYearsGoBy() {
        add(x.pass(1));
        add(x.digest());
        add(x.pass(9));
        add(x.digest());
        add(x.pass(50));
        add(x.digest());
    }
}
