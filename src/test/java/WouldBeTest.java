/** Promises 32 to 38: what would be. */
public final class WouldBeTest {
    private static final Check CHECK = new Check("WouldBeTest");

    private WouldBeTest() {
    }

    public static void main(String[] args) {
        promise32NameIn();
        promise33YearsUntilRenamed();
        promise34WeightiestSpring();
        promise35RenamedByDelta();
        promise36RenamedByRule();
        promise37MeanMouth();
        promise38Digest();
        waysAgainstTheNumbers();
        questionsChangeNothing();
        CHECK.end();
    }

    /** 0 (name 3, swelling) and 1 (name 7, drying) lead to 2, and that to 3. */
    private static RiverNames land() {
        RiverNames x = new RiverNames();
        x.addSpring(3, 10, 2);
        x.addSpring(7, 20, -3);
        x.addPlace();
        x.addPlace();
        x.lead(0, 2);
        x.lead(1, 2);
        x.lead(2, 3);
        return x;
    }

    private static void promise32NameIn() {
        RiverNames x = land();
        CHECK.due("32 a year", x.nameIn(3, 1), 7);
        CHECK.due("32 even, the smaller number", x.nameIn(3, 2), 3);
        CHECK.due("32 the spring not yet dry", x.nameIn(1, 6), 7);
        CHECK.due("32 dry", x.nameIn(1, 7), -1);
        CHECK.due("32 the most years", x.nameIn(3, 50), 3);
        CHECK.due("32 now it is still so", x.nameAt(3), 7);
        x.setRule(1);
        CHECK.due("32 by the rule that is", x.nameIn(3, 1), 3);
        x.turnDelta(2);
        CHECK.due("32 below a delta", x.nameIn(3, 1), -1);
        x.addSpring(5, 0, 1);
        CHECK.due("32 a dry one swells", x.nameIn(4, 1), 5);
    }

    private static void promise33YearsUntilRenamed() {
        RiverNames x = land();
        CHECK.due("33 another name", x.yearsUntilRenamed(3), 2);
        CHECK.due("33 none", x.yearsUntilRenamed(1), 7);
        CHECK.due("33 never", x.yearsUntilRenamed(0), -1);
        x.pass(1);
        CHECK.due("33 a year later", x.yearsUntilRenamed(3), 1);
        x.addSpring(5, 0, 1);
        x.addPlace();
        x.lead(4, 5);
        CHECK.due("33 one at last", x.yearsUntilRenamed(5), 1);
        RiverNames y = new RiverNames();
        y.addSpring(1, 50, -1);
        y.addSpring(2, 51, -1);
        CHECK.due("33 behind 50", y.yearsUntilRenamed(0), 50);
        CHECK.due("33 behind 51", y.yearsUntilRenamed(1), -1);
        RiverNames z = new RiverNames();
        z.addSpring(1, 10, 9);
        z.addSpring(2, 20, 5);
        z.addSpring(1, 0, 9);
        z.addPlace();
        z.lead(0, 3);
        z.lead(1, 3);
        CHECK.due("33 for the first time", z.yearsUntilRenamed(3), 3);
        CHECK.due("33 year", z.year(), 0);
    }

    private static void promise34WeightiestSpring() {
        RiverNames x = new RiverNames();
        CHECK.due("34 no place", x.weightiestSpring(), -1);
        x.addPlace();
        x.addSpring(1, 0, 1);
        CHECK.due("34 no water", x.weightiestSpring(), -1);
        x.addSpring(2, 5, 0);
        x.turnDelta(2);
        CHECK.due("34 one that renames nothing", x.weightiestSpring(), 2);
        x.addSpring(3, 1, 0);
        CHECK.due("34 one that renames itself", x.weightiestSpring(), 3);
        x.addSpring(4, 99, 0);
        CHECK.due("34 even, the smallest", x.weightiestSpring(), 3);
        x.lead(4, 0);
        CHECK.due("34 the most", x.weightiestSpring(), 4);
        RiverNames y = land();
        CHECK.due("34 the winner", y.weightiestSpring(), 1);
        y.setRule(1);
        CHECK.due("34 by the rule that is", y.weightiestSpring(), 0);
        RiverNames z = new RiverNames();
        z.addSpring(1, 10, 0);
        z.addSpring(1, 20, 0);
        z.addPlace();
        z.lead(1, 2);
        z.lead(0, 2);
        CHECK.due("34 the same name from another", z.weightiestSpring(), 0);
    }

    private static void promise35RenamedByDelta() {
        RiverNames x = land();
        CHECK.due("35 made, and below", x.renamedByDelta(2), 2);
        CHECK.due("35 made, at the mouth", x.renamedByDelta(3), 1);
        CHECK.due("35 made, the winner", x.renamedByDelta(1), 3);
        CHECK.due("35 made, the loser", x.renamedByDelta(0), 1);
        x.turnDelta(2);
        CHECK.due("35 unmade", x.renamedByDelta(2), 2);
        CHECK.due("35 a nameless one", x.renamedByDelta(3), 0);
        CHECK.due("35 above a delta", x.renamedByDelta(1), 1);
        CHECK.due("35 it is still one", x.turnDelta(2), false);
    }

    private static void promise36RenamedByRule() {
        CHECK.due("36 no place", new RiverNames().renamedByRule(), 0);
        RiverNames x = land();
        CHECK.due("36 from 0 to 1", x.renamedByRule(), 2);
        x.setRule(1);
        CHECK.due("36 from 1 to 0", x.renamedByRule(), 2);
        CHECK.due("36 the rule is as it was", x.setRule(0), 1);
        x.pass(2);
        CHECK.due("36 no difference", x.renamedByRule(), 0);
    }

    private static void promise37MeanMouth() {
        RiverNames x = new RiverNames();
        CHECK.dueDouble("37 no place", x.meanMouth(), 0.0);
        x.addPlace();
        CHECK.dueDouble("37 no water", x.meanMouth(), 0.0);
        x.addSpring(1, 5, 0);
        CHECK.dueDouble("37 a half", x.meanMouth(), 2.5);
        x.addSpring(2, 20, 0);
        CHECK.dueDouble("37 a third", x.meanMouth(), 25.0 / 3.0);
        x.lead(2, 1);
        CHECK.dueDouble("37 those at the sea alone", x.meanMouth(), 12.5);
        x.lead(0, 1);
        CHECK.dueDouble("37 one mouth", x.meanMouth(), 25.0);
        x.turnDelta(1);
        CHECK.dueDouble("37 a delta", x.meanMouth(), 25.0);
    }

    private static void promise38Digest() {
        long[] empty = {0, 0, 0, 0, -1, 0, -1, 0};
        CHECK.due("38 an empty land", new RiverNames().digest(), sum(empty));
        RiverNames x = land();
        x.build(2);
        x.build(0);
        x.pass(2);
        long[] first = {
            2, 4, 2, 1, 3, 0, 0, 0,
            2, 1, 14, 14, 1, 3, 0, 3, 1, 0,
            2, 1, 14, 14, 1, 3, 0, 7, 1, 0,
            3, 0, 0, 28, 2, 3, 2, 3, 2, 1,
            -1, 0, 0, 28, 3, 3, 3, 3, 1, 0,
            2, 7, 1,
            0, 3, 0};
        CHECK.due("38 a land", x.digest(), sum(first));
    }

    private static long sum(long[] numbers) {
        long d = 2027;
        for (long number : numbers) {
            d = d * 31 + number;
        }
        return d;
    }

    /** 4 leads to 3, and so on to 0, where 5 comes in: greater numbers are the farther ones. */
    private static void waysAgainstTheNumbers() {
        RiverNames x = new RiverNames();
        x.addPlace();
        x.addPlace();
        x.addPlace();
        x.addPlace();
        x.addSpring(6, 10, -4);
        x.addSpring(8, 9, 0);
        for (int place = 4; place > 0; place--) {
            x.lead(place, place - 1);
        }
        x.lead(5, 0);
        CHECK.due("32 before", x.nameIn(1, 2), 6);
        CHECK.due("32 renamed", x.nameIn(0, 1), 8);
        CHECK.due("33 by the other river", x.yearsUntilRenamed(0), 1);
        CHECK.due("33 dry far above", x.yearsUntilRenamed(1), 3);
        CHECK.due("34 the farthest", x.weightiestSpring(), 4);
        CHECK.due("35 far above", x.renamedByDelta(4), 5);
        CHECK.due("35 halfway", x.renamedByDelta(2), 3);
        CHECK.due("36 the longer one has it", x.renamedByRule(), 0);
        x.pass(1);
        CHECK.due("36 the longer one would have it", x.renamedByRule(), 1);
    }

    private static void questionsChangeNothing() {
        RiverNames x = land();
        x.build(3);
        x.turnDelta(2);
        x.addSpring(1, 5, 5);
        long before = x.digest();
        for (int place = 0; place < 5; place++) {
            for (int years = 1; years <= 50; years++) {
                x.nameIn(place, years);
            }
            x.yearsUntilRenamed(place);
            x.renamedByDelta(place);
        }
        x.weightiestSpring();
        x.renamedByRule();
        CHECK.due("32 to 36 nothing is changed", x.digest(), before);
        CHECK.due("36 the rule", x.setRule(0), 0);
        CHECK.due("35 the delta", x.turnDelta(2), false);
    }
}
