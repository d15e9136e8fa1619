import java.math.BigInteger;
import java.util.ArrayList;
import java.util.List;

/**
 * The boundaries that the promises name, sentence by sentence; those of "Terms" are in EdgesTest,
 * the refused calls in RefusalsTest.
 */
public final class PromiseEdgesTest {
    private static final Check CHECK = new Check("PromiseEdgesTest");

    private PromiseEdgesTest() {
    }

    public static void main(String[] args) {
        promise1WithoutPlacesByTheRule0();
        promise3TheLeastAndTheMost();
        promise4NoneBefore();
        promise6OneAndTheOther();
        promise8OneYearAndFifty();
        promise12DryOrNot();
        promise16ItsOwnMouth();
        promise19OneOfThemItself();
        promise22TwoAtLeastNotAllTheSame();
        promise23TheFirstAndTheLastName();
        promise24OfSeveralTheSmallest();
        promise25NoneAndAll();
        promise32OneYearAndFifty();
        promise33AtMost50();
        promise33ForTheFirstTime();
        promise34NoSpringHasWater();
        promise34OfSeveralTheSmallest();
        promise34AnotherNameOrNone();
        promise34DryIsWithoutWater();
        promise35MadeADeltaOrNone();
        promise36TheOtherRule();
        promise37WithoutAny();
        promise37AtOnce();
        promise38OfAnEmptyLand();
        promise38WrapsAround();
        CHECK.end();
    }

    private static RiverNames springs(int... waters) {
        RiverNames x = new RiverNames();
        for (int place = 0; place < waters.length; place++) {
            x.addSpring(place % 10, waters[place], 0);
        }
        return x;
    }

    /** "Creates a land without places; the rule is 0." */
    private static void promise1WithoutPlacesByTheRule0() {
        RiverNames x = new RiverNames();
        CHECK.due("1 places", x.places(), 0);
        CHECK.due("1 bridges", x.bridges(), 0);
        CHECK.due("1 year", x.year(), 0);
        CHECK.due("1 insults", x.insults(), 0);
        CHECK.due("1 greatestName", x.greatestName(), -1);
        CHECK.due("1 nameless", x.nameless(), 0);
        CHECK.due("1 placesNamed", x.placesNamed(0), 0);
        CHECK.due("1 weightiestSpring", x.weightiestSpring(), -1);
        CHECK.due("1 renamedByRule", x.renamedByRule(), 0);
        CHECK.due("1 pass", x.pass(50), 0);
        CHECK.due("1 the rule", x.setRule(0), 0);
    }

    private static void promise3TheLeastAndTheMost() {
        int[] names = {0, 9};
        int[] waters = {0, 99};
        int[] swells = {-9, 9};
        RiverNames x = new RiverNames();
        int place = 0;
        for (int name : names) {
            for (int water : waters) {
                for (int swell : swells) {
                    CHECK.due("3 its number", x.addSpring(name, water, swell), place);
                    CHECK.due("3 its water", x.springOf(place), water);
                    CHECK.due("3 its name", x.nameAt(place), water == 0 ? -1 : name);
                    int then = water == 0 && swell < 0 ? -1 : name;
                    CHECK.due("3 its swell", x.nameIn(place, 1), then);
                    place++;
                }
            }
        }
    }

    /** "Returns the place to which it led before; -1 for none." */
    private static void promise4NoneBefore() {
        RiverNames x = springs(1, 1, 1);
        CHECK.due("4 none before", x.lead(1, 0), -1);
        CHECK.due("4 the place 0 before", x.lead(1, 2), 0);
        CHECK.due("4 another before", x.lead(1, 2), 2);
        CHECK.due("4 none before, another place", x.lead(2, 0), -1);
    }

    /** "Returns the one before." */
    private static void promise6OneAndTheOther() {
        RiverNames x = new RiverNames();
        int[] rules = {0, 1, 1, 0, 0, 1, 0};
        int before = 0;
        for (int rule : rules) {
            CHECK.due("6 the one before", x.setRule(rule), before);
            before = rule;
        }
    }

    /** "if years is not 1 to 50": these two are not refused. */
    private static void promise8OneYearAndFifty() {
        RiverNames x = new RiverNames();
        x.addSpring(1, 51, -1);
        x.build(0);
        CHECK.due("8 fifty", x.pass(50), 0);
        CHECK.due("8 year", x.year(), 50);
        CHECK.due("8 springOf", x.springOf(0), 1);
        CHECK.due("8 one", x.pass(1), 1);
        CHECK.due("8 year", x.year(), 51);
        CHECK.due("8 springOf", x.springOf(0), 0);
    }

    /** "Returns whether it has a spring, dry or not." */
    private static void promise12DryOrNot() {
        RiverNames x = new RiverNames();
        x.addSpring(1, 0, 0);
        x.addSpring(1, 1, -1);
        x.addPlace();
        x.lead(1, 2);
        x.pass(1);
        CHECK.due("12 dry from the first", x.hasSpring(0), true);
        CHECK.due("12 dried up", x.hasSpring(1), true);
        CHECK.due("12 none", x.hasSpring(2), false);
    }

    /** "Returns the last place of its way, where it ends in the sea." */
    private static void promise16ItsOwnMouth() {
        RiverNames x = springs(1, 1, 1);
        CHECK.due("16 its own", x.mouthOf(0), 0);
        CHECK.due("16 its own, the last", x.mouthOf(2), 2);
        x.lead(2, 0);
        CHECK.due("16 another", x.mouthOf(2), 0);
        CHECK.due("16 still its own", x.mouthOf(0), 0);
    }

    /** "the first place where the ways of both meet, one of them itself as well; -1 if they never" */
    private static void promise19OneOfThemItself() {
        RiverNames x = springs(1, 1, 1, 1, 1);
        x.lead(4, 3);
        x.lead(3, 1);
        x.lead(2, 1);
        int[][] due = {
            {0, -1, -1, -1, -1},
            {-1, 1, 1, 1, 1},
            {-1, 1, 2, 1, 1},
            {-1, 1, 1, 3, 3},
            {-1, 1, 1, 3, 4}};
        for (int a = 0; a < 5; a++) {
            for (int b = 0; b < 5; b++) {
                CHECK.due("19 " + a + " and " + b, x.meeting(a, b), due[a][b]);
            }
        }
        x.lead(1, 0);
        CHECK.due("19 the first one, not a later one", x.meeting(4, 2), 1);
        CHECK.due("19 farther on", x.meeting(0, 4), 0);
    }

    /** "Returns whether two at least argue there who have not all the same name." */
    private static void promise22TwoAtLeastNotAllTheSame() {
        RiverNames x = new RiverNames();
        x.addSpring(0, 5, 0);
        CHECK.due("22 one", x.isArgued(0), false);
        x.addSpring(0, 6, 0);
        x.lead(1, 0);
        CHECK.due("22 two of the same name", x.isArgued(0), false);
        x.addSpring(3, 1, 0);
        x.lead(2, 0);
        CHECK.due("22 a third, who loses", x.isArgued(0), true);
        x.lead(2, 1);
        CHECK.due("22 the dispute is above", x.isArgued(0), false);
        CHECK.due("22 there it is", x.isArgued(1), true);
        for (int other = 0; other < 16; other++) {
            CHECK.due("22 the other one is " + other, sixteen(other).isArgued(15), true);
        }
        CHECK.due("22 sixteen of the same name", sixteen(16).isArgued(15), false);
        CHECK.due("21 sixteen", sixteen(16).arguing(15), 16);
    }

    /** All lead to 15, and have the name 4 but for one. */
    private static RiverNames sixteen(int other) {
        RiverNames x = new RiverNames();
        for (int place = 0; place < 16; place++) {
            x.addSpring(place == other ? 5 : 4, 1 + place * 7 % 16, 0);
        }
        for (int place = 0; place < 15; place++) {
            x.lead(place, 15);
        }
        return x;
    }

    private static void promise23TheFirstAndTheLastName() {
        RiverNames x = new RiverNames();
        CHECK.due("23 none yet", x.placesNamed(0) + x.placesNamed(9), 0);
        x.addSpring(9, 1, 0);
        x.addSpring(0, 1, 0);
        x.addSpring(9, 1, 0);
        x.addPlace();
        CHECK.due("23 the first", x.placesNamed(0), 1);
        CHECK.due("23 the last", x.placesNamed(9), 2);
        for (int name = 1; name < 9; name++) {
            CHECK.due("23 none", x.placesNamed(name), 0);
        }
    }

    /** "of several the smallest; -1 if none has any" */
    private static void promise24OfSeveralTheSmallest() {
        RiverNames x = new RiverNames();
        x.addPlace();
        x.addPlace();
        CHECK.due("24 none has any", x.greatestName(), -1);
        for (int name = 9; name >= 0; name--) {
            x.addSpring(name, 1, 0);
            CHECK.due("24 of several", x.greatestName(), name);
        }
        x.addSpring(9, 1, 0);
        CHECK.due("24 one more", x.greatestName(), 9);
        x.addSpring(5, 1, 0);
        CHECK.due("24 two have as many", x.greatestName(), 5);
        for (int place = 2; place < 14; place++) {
            x.turnDelta(place);
        }
        CHECK.due("24 none any more", x.greatestName(), -1);
    }

    private static void promise25NoneAndAll() {
        RiverNames x = springs(1, 1, 1);
        CHECK.due("25 none", x.nameless(), 0);
        for (int place = 0; place < 3; place++) {
            x.turnDelta(place);
            CHECK.due("25 some", x.nameless(), place + 1);
        }
    }

    /** "if years is not 1 to 50": these two are not refused. */
    private static void promise32OneYearAndFifty() {
        RiverNames x = new RiverNames();
        x.addSpring(1, 50, -1);
        x.addSpring(2, 1, -1);
        x.addSpring(3, 0, 1);
        x.addSpring(4, 0, 0);
        int[][] due = {{1, 1, -1}, {-1, -1, -1}, {3, 3, 3}, {-1, -1, -1}};
        for (int place = 0; place < 4; place++) {
            CHECK.due("32 one, " + place, x.nameIn(place, 1), due[place][0]);
            CHECK.due("32 forty-nine, " + place, x.nameIn(place, 49), due[place][1]);
            CHECK.due("32 fifty, " + place, x.nameIn(place, 50), due[place][2]);
        }
        CHECK.due("32 nothing is changed", x.year(), 0);
        CHECK.due("32 nothing is changed", x.springOf(1), 1);
    }

    /** "at most 50; -1 if not by then" */
    private static void promise33AtMost50() {
        for (int water = 1; water <= 99; water++) {
            RiverNames x = new RiverNames();
            x.addSpring(1, water, -1);
            int due = water <= 50 ? water : -1;
            CHECK.due("33 with water " + water, x.yearsUntilRenamed(0), due);
        }
        RiverNames y = new RiverNames();
        y.addSpring(1, 0, 1);
        y.addSpring(2, 0, 0);
        y.addSpring(3, 9, 0);
        y.addPlace();
        CHECK.due("33 one at last", y.yearsUntilRenamed(0), 1);
        CHECK.due("33 none for ever", y.yearsUntilRenamed(1), -1);
        CHECK.due("33 the same for ever", y.yearsUntilRenamed(2), -1);
        CHECK.due("33 bare", y.yearsUntilRenamed(3), -1);
        for (int more = 48; more <= 51; more++) {
            RiverNames z = new RiverNames();
            z.addSpring(1, more, 0);
            z.addSpring(2, 0, 1);
            z.lead(1, 0);
            int due = more + 1 <= 50 ? more + 1 : -1;
            CHECK.due("33 overtaken behind " + (more + 1), z.yearsUntilRenamed(0), due);
        }
    }

    /** "for the first time" and "than now": later it may have the name of now again. */
    private static void promise33ForTheFirstTime() {
        RiverNames x = new RiverNames();
        x.addSpring(1, 30, 0);
        x.addSpring(2, 20, 9);
        x.addSpring(1, 0, 5);
        x.addPlace();
        for (int place = 0; place < 3; place++) {
            x.lead(place, 3);
        }
        CHECK.due("33 the first time", x.yearsUntilRenamed(3), 2);
        CHECK.due("32 then", x.nameIn(3, 2), 2);
        x.pass(2);
        CHECK.due("33 as it is now, another one", x.yearsUntilRenamed(3), -1);
        RiverNames y = new RiverNames();
        y.addSpring(7, 40, 0);
        y.addSpring(8, 35, 3);
        y.addSpring(7, 30, 4);
        y.lead(1, 0);
        y.lead(2, 0);
        CHECK.due("33 away", y.yearsUntilRenamed(0), 2);
        CHECK.due("32 away", y.nameIn(0, 2), 8);
        CHECK.due("32 and back", y.nameIn(0, 6), 7);
        y.pass(2);
        CHECK.due("33 back", y.yearsUntilRenamed(0), 4);
    }

    /** "-1 if no spring has water" */
    private static void promise34NoSpringHasWater() {
        RiverNames x = new RiverNames();
        CHECK.due("34 no place", x.weightiestSpring(), -1);
        x.addPlace();
        CHECK.due("34 no spring", x.weightiestSpring(), -1);
        x.addSpring(1, 0, 9);
        CHECK.due("34 a dry spring", x.weightiestSpring(), -1);
        x.addSpring(2, 1, -1);
        CHECK.due("34 a spring that is not dry", x.weightiestSpring(), 2);
        x.turnDelta(2);
        CHECK.due("34 though it renames none", x.weightiestSpring(), 2);
        x.pass(1);
        CHECK.due("34 another one", x.weightiestSpring(), 1);
    }

    /** "of several the smallest number" */
    private static void promise34OfSeveralTheSmallest() {
        RiverNames x = springs(0, 5, 5, 5);
        CHECK.due("34 one each", x.weightiestSpring(), 1);
        x.addPlace();
        x.lead(3, 4);
        CHECK.due("34 two", x.weightiestSpring(), 3);
        x.addPlace();
        x.lead(2, 5);
        CHECK.due("34 two by two of them", x.weightiestSpring(), 2);
        RiverNames y = springs(5, 5, 5);
        for (int place = 0; place < 3; place++) {
            y.turnDelta(place);
        }
        CHECK.due("34 none by all of them", y.weightiestSpring(), 0);
        RiverNames z = springs(1, 1, 1);
        z.turnDelta(0);
        CHECK.due("34 none by the first", z.weightiestSpring(), 1);
    }

    /** "another name than now, or none": one at last comes of no spring that dries. */
    private static void promise34AnotherNameOrNone() {
        RiverNames x = springs(5, 9);
        x.addPlace();
        x.addPlace();
        x.lead(0, 2);
        x.lead(1, 2);
        x.lead(2, 3);
        CHECK.due("34 another name", x.weightiestSpring(), 1);
        RiverNames y = new RiverNames();
        y.addSpring(7, 5, 0);
        y.addSpring(7, 9, 0);
        y.addPlace();
        y.addSpring(8, 1, 0);
        y.addPlace();
        y.lead(0, 2);
        y.lead(1, 2);
        y.lead(3, 4);
        CHECK.due("34 none, not the same name from another", y.weightiestSpring(), 3);
    }

    /** "if it was dry": 1, without any of the three springs of name 7, still is even with 2. */
    private static void promise34DryIsWithoutWater() {
        RiverNames x = new RiverNames();
        x.addSpring(7, 5, 0);
        x.addSpring(7, 5, 0);
        x.addSpring(8, 10, 0);
        x.addSpring(7, 5, 0);
        for (int place = 4; place < 7; place++) {
            x.addPlace();
        }
        x.lead(0, 1);
        x.lead(3, 1);
        x.lead(1, 4);
        x.lead(2, 4);
        x.lead(4, 5);
        x.lead(5, 6);
        CHECK.due("34 each that renames itself alone", x.weightiestSpring(), 0);
        x.addSpring(9, 1, 0);
        x.addPlace();
        x.lead(7, 8);
        CHECK.due("34 one that renames another", x.weightiestSpring(), 7);
    }

    /** "if it was made a delta, or none" */
    private static void promise35MadeADeltaOrNone() {
        RiverNames x = springs(9, 5);
        x.addPlace();
        x.addPlace();
        x.lead(0, 2);
        x.lead(1, 2);
        x.lead(2, 3);
        int[] made = {3, 1, 2, 1};
        for (int place = 0; place < 4; place++) {
            CHECK.due("35 made at " + place, x.renamedByDelta(place), made[place]);
            CHECK.due("35 nothing is changed", x.renamedByDelta(place), made[place]);
            x.turnDelta(place);
            CHECK.due("35 unmade at " + place, x.renamedByDelta(place), made[place]);
            CHECK.due("35 it still is one", x.turnDelta(place), false);
        }
        RiverNames y = springs(0);
        CHECK.due("35 no name to lose", y.renamedByDelta(0), 0);
        y.turnDelta(0);
        CHECK.due("35 no name to win", y.renamedByDelta(0), 0);
        RiverNames z = springs(1, 1);
        z.lead(1, 0);
        z.turnDelta(0);
        CHECK.due("35 below a delta", z.renamedByDelta(1), 1);
    }

    /** "by the other rule" */
    private static void promise36TheOtherRule() {
        RiverNames x = springs(9, 5, 1);
        x.lead(1, 0);
        x.lead(2, 1);
        CHECK.due("36 by the rule 1", x.renamedByRule(), 2);
        CHECK.due("36 it still is 0", x.setRule(1), 0);
        CHECK.due("36 by the rule 0", x.renamedByRule(), 2);
        CHECK.due("36 it still is 1", x.setRule(0), 1);
        RiverNames y = springs(0, 0);
        y.addPlace();
        CHECK.due("36 without names", y.renamedByRule(), 0);
    }

    /** "0 without any": there is none in an empty land alone, as each way ends. */
    private static void promise37WithoutAny() {
        RiverNames x = new RiverNames();
        CHECK.dueDouble("37 without any", x.meanMouth(), 0.0);
        x.pass(1);
        CHECK.dueDouble("37 without any, later", x.meanMouth(), 0.0);
        x.addPlace();
        CHECK.dueDouble("37 one without water", x.meanMouth(), 0.0);
    }

    /** "the mean water of places that lead to the sea at once" */
    private static void promise37AtOnce() {
        for (int mouths = 1; mouths <= 16; mouths++) {
            RiverNames x = new RiverNames();
            int water = 0;
            for (int place = 0; place < 16; place++) {
                x.addSpring(1, 99 - place * place % 50, 0);
                water += 99 - place * place % 50;
            }
            for (int place = mouths; place < 16; place++) {
                x.lead(place, place - mouths);
            }
            double due = (double) water / mouths;
            CHECK.dueDouble("37 with " + mouths, x.meanMouth(), due);
        }
    }

    private static void promise38OfAnEmptyLand() {
        long d = 2027;
        long[] numbers = {0, 0, 0, 0, -1, 0, -1, 0};
        for (long number : numbers) {
            d = d * 31 + number;
        }
        CHECK.due("38 without places and bridges", new RiverNames().digest(), d);
    }

    /** "which wraps around as a 64-bit integer": told here without a bound, and cut off at last. */
    private static void promise38WrapsAround() {
        RiverNames x = new RiverNames();
        for (int place = 0; place < 15; place++) {
            x.addSpring(place * 3 % 10, place * 13 % 100, place % 4 - 2);
        }
        x.addPlace();
        for (int place = 0; place < 15; place++) {
            x.build(15 - place);
            if (place % 4 != 3) {
                x.lead(place, place + 1);
            }
        }
        x.build(4);
        x.turnDelta(2);
        x.pass(6);
        BigInteger d = BigInteger.valueOf(2027);
        for (long number : numbersOf(x)) {
            d = d.multiply(BigInteger.valueOf(31)).add(BigInteger.valueOf(number));
        }
        CHECK.due("38 it does not fit", d.bitLength() > 64, true);
        CHECK.due("38 wrapped around", x.digest(), d.longValue());
    }

    private static List<Long> numbersOf(RiverNames x) {
        List<Long> numbers = new ArrayList<>();
        int[] first = {x.year(), x.places(), x.bridges(), x.insults(), x.greatestName(),
            x.nameless(), x.weightiestSpring(), x.renamedByRule()};
        addAll(numbers, first);
        for (int place = 0; place < x.places(); place++) {
            int[] row = {x.leadsTo(place), x.hasSpring(place) ? 1 : 0, x.springOf(place),
                x.waterAt(place), x.lengthAt(place), x.mouthOf(place), x.placesAbove(place),
                x.nameAt(place), x.arguing(place), x.isArgued(place) ? 1 : 0};
            addAll(numbers, row);
        }
        for (int bridge = 0; bridge < x.bridges(); bridge++) {
            int[] row = {x.placeOf(bridge), x.keeps(bridge), x.isInsulted(bridge) ? 1 : 0};
            addAll(numbers, row);
        }
        return numbers;
    }

    private static void addAll(List<Long> numbers, int[] row) {
        for (int number : row) {
            numbers.add((long) number);
        }
    }
}
