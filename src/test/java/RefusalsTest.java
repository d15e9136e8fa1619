import java.util.ArrayList;
import java.util.List;
import java.util.function.Consumer;
import java.util.function.Supplier;

/**
 * "A method that throws an exception changes nothing. If several exceptions apply, the one that is
 * named first is thrown.": each refusal of each call, in an empty, a middling and a full land.
 */
public final class RefusalsTest {
    private static final Check CHECK = new Check("RefusalsTest");
    private static final Class<IndexOutOfBoundsException> INDEX = IndexOutOfBoundsException.class;
    private static final Class<IllegalArgumentException> ARGUMENT =
            IllegalArgumentException.class;
    private static final Class<IllegalStateException> STATE = IllegalStateException.class;
    /** Out of all bounds, and such as look like small ones when a part of them is cut off. */
    private static final int[] FAR = {-2, 128, 256, 65536, 1 << 31, Integer.MAX_VALUE};

    private RefusalsTest() {
    }

    public static void main(String[] args) {
        everyPlaceThatIsNotThere("empty", RefusalsTest::empty, 0);
        everyPlaceThatIsNotThere("middling", RefusalsTest::middling, 6);
        everyPlaceThatIsNotThere("full", RefusalsTest::full, 16);
        everyBridgeThatIsNotThere("empty", RefusalsTest::empty, 0);
        everyBridgeThatIsNotThere("middling", RefusalsTest::middling, 3);
        everyBridgeThatIsNotThere("full", RefusalsTest::full, 16);
        numbersOutOfBounds("empty", RefusalsTest::empty);
        numbersOutOfBounds("middling", RefusalsTest::middling);
        numbersOutOfBounds("full", RefusalsTest::full);
        noRoomForPlace();
        noRoomForBridge();
        noRing();
        addSpringNamesTheFirst();
        leadNamesTheFirst();
        buildNamesTheFirst();
        nameInNamesTheFirst();
        CHECK.end();
    }

    private static RiverNames empty() {
        return new RiverNames();
    }

    /** By the rule 1, in the year 4; 0, 1 and the delta 3 lead on to 2, and that to 4; 5 is dry. */
    private static RiverNames middling() {
        RiverNames x = new RiverNames();
        x.setRule(1);
        x.addSpring(1, 30, -7);
        x.addSpring(2, 10, 4);
        x.addPlace();
        x.addSpring(3, 5, 0);
        x.addPlace();
        x.addSpring(4, 0, 0);
        x.build(4);
        x.lead(0, 2);
        x.lead(1, 2);
        x.lead(3, 2);
        x.lead(2, 4);
        x.turnDelta(3);
        x.build(2);
        x.build(3);
        x.pass(4);
        return x;
    }

    /** 16 places, two of them bare: 14 leads to 12, and so on to 0; 13 to 11, and so on to 1. */
    private static RiverNames full() {
        RiverNames x = new RiverNames();
        x.addPlace();
        for (int place = 1; place < 15; place++) {
            x.addSpring(place % 10, 99 - place, place % 5 - 3);
        }
        x.addPlace();
        for (int place = 2; place < 15; place++) {
            x.lead(place, place - 2);
        }
        x.turnDelta(6);
        for (int place = 0; place < 16; place++) {
            x.build(place);
        }
        x.pass(40);
        return x;
    }

    private static List<Integer> outside(int least, int most) {
        List<Integer> found = new ArrayList<>();
        found.add(least - 1);
        found.add(most + 1);
        for (int number : FAR) {
            if (number < least || number > most) {
                found.add(number);
            }
        }
        return found;
    }

    /** "Throws IndexOutOfBoundsException if there is no such place": 4, 5, 7, 11 to 22, 31 to 35. */
    private static void everyPlaceThatIsNotThere(String land, Supplier<RiverNames> made, int count) {
        CHECK.due("10 " + land, made.get().places(), count);
        for (int p : outside(0, count - 1)) {
            String where = land + ", place " + p;
            CHECK.refused("5 " + where, made, INDEX, x -> x.turnDelta(p));
            CHECK.refused("7 " + where, made, INDEX, x -> x.build(p));
            CHECK.refused("11 " + where, made, INDEX, x -> x.leadsTo(p));
            CHECK.refused("12 " + where, made, INDEX, x -> x.hasSpring(p));
            CHECK.refused("13 " + where, made, INDEX, x -> x.springOf(p));
            CHECK.refused("14 " + where, made, INDEX, x -> x.waterAt(p));
            CHECK.refused("15 " + where, made, INDEX, x -> x.lengthAt(p));
            CHECK.refused("16 " + where, made, INDEX, x -> x.mouthOf(p));
            CHECK.refused("18 " + where, made, INDEX, x -> x.placesAbove(p));
            CHECK.refused("20 " + where, made, INDEX, x -> x.nameAt(p));
            CHECK.refused("21 " + where, made, INDEX, x -> x.arguing(p));
            CHECK.refused("22 " + where, made, INDEX, x -> x.isArgued(p));
            CHECK.refused("31 " + where, made, INDEX, x -> x.insultsAt(p));
            CHECK.refused("32 " + where, made, INDEX, x -> x.nameIn(p, 1));
            CHECK.refused("33 " + where, made, INDEX, x -> x.yearsUntilRenamed(p));
            CHECK.refused("35 " + where, made, INDEX, x -> x.renamedByDelta(p));
            int there = count - 1;
            CHECK.refused("4 first " + where, made, INDEX, x -> x.lead(p, there));
            CHECK.refused("4 second " + where, made, INDEX, x -> x.lead(there, p));
            CHECK.refused("17 first " + where, made, INDEX, x -> x.isAbove(p, there));
            CHECK.refused("17 second " + where, made, INDEX, x -> x.isAbove(there, p));
            CHECK.refused("17 both " + where, made, INDEX, x -> x.isAbove(p, p));
            CHECK.refused("19 first " + where, made, INDEX, x -> x.meeting(p, there));
            CHECK.refused("19 second " + where, made, INDEX, x -> x.meeting(there, p));
            CHECK.refused("19 both " + where, made, INDEX, x -> x.meeting(p, p));
        }
    }

    /** "Throws IndexOutOfBoundsException if there is no such bridge": 27 to 29. */
    private static void everyBridgeThatIsNotThere(String land, Supplier<RiverNames> made,
            int count) {
        CHECK.due("26 " + land, made.get().bridges(), count);
        for (int b : outside(0, count - 1)) {
            String where = land + ", bridge " + b;
            CHECK.refused("27 " + where, made, INDEX, x -> x.placeOf(b));
            CHECK.refused("28 " + where, made, INDEX, x -> x.keeps(b));
            CHECK.refused("29 " + where, made, INDEX, x -> x.isInsulted(b));
        }
    }

    /** Names, waters, swells, rules and years that are too small or too large: 3, 6, 8, 23, 32. */
    private static void numbersOutOfBounds(String land, Supplier<RiverNames> made) {
        for (int name : outside(0, 9)) {
            String where = land + ", name " + name;
            CHECK.refused("3 " + where, made, INDEX, x -> x.addSpring(name, 5, 1));
            CHECK.refused("23 " + where, made, INDEX, x -> x.placesNamed(name));
        }
        for (int water : outside(0, 99)) {
            String where = land + ", water " + water;
            CHECK.refused("3 " + where, made, ARGUMENT, x -> x.addSpring(5, water, 1));
        }
        for (int swell : outside(-9, 9)) {
            String where = land + ", swell " + swell;
            CHECK.refused("3 " + where, made, ARGUMENT, x -> x.addSpring(5, 5, swell));
        }
        for (int rule : outside(0, 1)) {
            CHECK.refused("6 " + land + ", rule " + rule, made, ARGUMENT, x -> x.setRule(rule));
        }
        for (int years : outside(1, 50)) {
            String where = land + ", years " + years;
            CHECK.refused("8 " + where, made, ARGUMENT, x -> x.pass(years));
            for (int place = 0; place < made.get().places(); place++) {
                int there = place;
                CHECK.refused("32 " + where, made, ARGUMENT, x -> x.nameIn(there, years));
            }
        }
    }

    /** "Throws IllegalStateException if there are 16": 2 and 3, whichever the 16 places are. */
    private static void noRoomForPlace() {
        Supplier<RiverNames> bare = () -> manyPlaces(16, 0);
        Supplier<RiverNames> sprung = () -> manyPlaces(0, 16);
        List<Supplier<RiverNames>> lands = List.of(bare, sprung, RefusalsTest::full);
        for (Supplier<RiverNames> made : lands) {
            CHECK.refused("2 a 17th", made, STATE, x -> x.addPlace());
            CHECK.refused("3 a 17th", made, STATE, x -> x.addSpring(0, 0, -9));
            CHECK.refused("3 a 17th", made, STATE, x -> x.addSpring(9, 99, 9));
        }
        CHECK.due("2 a 16th", manyPlaces(0, 15).addPlace(), 15);
        CHECK.due("3 a 16th", manyPlaces(15, 0).addSpring(9, 99, 9), 15);
        RiverNames x = manyPlaces(7, 8);
        refusedQuietly(x, r -> r.addSpring(10, 0, 0));
        refusedQuietly(x, r -> r.addSpring(0, 100, 0));
        refusedQuietly(x, r -> r.addSpring(0, 0, 10));
        CHECK.due("3 the refused ones take no room", x.addPlace(), 15);
        refusedQuietly(x, r -> r.addPlace());
        CHECK.due("10 still 16", x.places(), 16);
    }

    private static RiverNames manyPlaces(int bare, int sprung) {
        RiverNames x = new RiverNames();
        for (int i = 0; i < bare; i++) {
            x.addPlace();
        }
        for (int i = 0; i < sprung; i++) {
            x.addSpring(i % 10, 99 - i, 0);
        }
        return x;
    }

    private static void refusedQuietly(RiverNames x, Consumer<RiverNames> call) {
        boolean refused = false;
        try {
            call.accept(x);
        } catch (RuntimeException e) {
            refused = true;
        }
        CHECK.due("it is refused", refused, true);
    }

    /** "Throws IllegalStateException if there are 16": 7. */
    private static void noRoomForBridge() {
        for (int place = 0; place < 16; place++) {
            int there = place;
            CHECK.refused("7 a 17th", RefusalsTest::full, STATE, x -> x.build(there));
        }
        RiverNames x = manyPlaces(0, 1);
        for (int bridge = 0; bridge < 15; bridge++) {
            x.build(0);
        }
        refusedQuietly(x, r -> r.build(1));
        CHECK.due("7 a 16th", x.build(0), 15);
        refusedQuietly(x, r -> r.build(0));
        CHECK.due("26 still 16", x.bridges(), 16);
    }

    /** "Throws IllegalStateException if both are the same, or the second one is above the first" */
    private static void noRing() {
        for (int place = 0; place < 6; place++) {
            int same = place;
            CHECK.refused("4 same " + place, RefusalsTest::middling, STATE,
                    x -> x.lead(same, same));
        }
        CHECK.refused("4 at once", RefusalsTest::middling, STATE, x -> x.lead(2, 0));
        CHECK.refused("4 at once, below a delta", RefusalsTest::middling, STATE,
                x -> x.lead(2, 3));
        CHECK.refused("4 over another", RefusalsTest::middling, STATE, x -> x.lead(4, 0));
        CHECK.refused("4 over another", RefusalsTest::middling, STATE, x -> x.lead(4, 1));
        CHECK.refused("4 over six others", RefusalsTest::full, STATE, x -> x.lead(0, 14));
        CHECK.refused("4 over five others", RefusalsTest::full, STATE, x -> x.lead(1, 13));
        CHECK.refused("4 over fourteen others", RefusalsTest::longest, STATE,
                x -> x.lead(0, 15));
        CHECK.due("4 from above to below", full().lead(14, 0), 12);
        CHECK.due("4 to the place where it leads", full().lead(14, 12), 12);
        CHECK.due("4 to one beside, which is below none", full().lead(0, 15), -1);
        CHECK.due("4 to one above which both are", middling().lead(0, 1), 2);
    }

    private static RiverNames longest() {
        RiverNames x = manyPlaces(0, 16);
        for (int place = 15; place > 0; place--) {
            x.lead(place, place - 1);
        }
        return x;
    }

    /** IndexOutOfBoundsException, IllegalArgumentException, IllegalStateException, in this order. */
    private static void addSpringNamesTheFirst() {
        List<Supplier<RiverNames>> lands =
                List.of(RefusalsTest::empty, RefusalsTest::middling, RefusalsTest::full);
        for (Supplier<RiverNames> made : lands) {
            for (int name : new int[] {-1, 10}) {
                CHECK.refused("3 name, water", made, INDEX, x -> x.addSpring(name, 100, 0));
                CHECK.refused("3 name, water", made, INDEX, x -> x.addSpring(name, -1, 0));
                CHECK.refused("3 name, swell", made, INDEX, x -> x.addSpring(name, 0, 10));
                CHECK.refused("3 name, swell", made, INDEX, x -> x.addSpring(name, 0, -10));
                CHECK.refused("3 all three", made, INDEX, x -> x.addSpring(name, 100, 10));
            }
            CHECK.refused("3 water, swell", made, ARGUMENT, x -> x.addSpring(0, -1, -10));
        }
        CHECK.refused("3 name, full", RefusalsTest::full, INDEX, x -> x.addSpring(10, 5, 0));
        CHECK.refused("3 name, full", RefusalsTest::full, INDEX, x -> x.addSpring(-1, 5, 0));
        CHECK.refused("3 water, full", RefusalsTest::full, ARGUMENT, x -> x.addSpring(5, 100, 0));
        CHECK.refused("3 water, full", RefusalsTest::full, ARGUMENT, x -> x.addSpring(5, -1, 0));
        CHECK.refused("3 swell, full", RefusalsTest::full, ARGUMENT, x -> x.addSpring(5, 5, 10));
        CHECK.refused("3 swell, full", RefusalsTest::full, ARGUMENT, x -> x.addSpring(5, 5, -10));
    }

    /** A place that is not there comes before "both are the same". */
    private static void leadNamesTheFirst() {
        for (int p : outside(0, 5)) {
            CHECK.refused("4 none, same", RefusalsTest::middling, INDEX, x -> x.lead(p, p));
        }
        for (int p : outside(0, 15)) {
            CHECK.refused("4 none, same", RefusalsTest::full, INDEX, x -> x.lead(p, p));
        }
        CHECK.refused("4 none, same", RefusalsTest::empty, INDEX, x -> x.lead(0, 0));
        CHECK.refused("4 none, same", RefusalsTest::empty, INDEX, x -> x.lead(-1, -1));
    }

    private static void buildNamesTheFirst() {
        for (int p : outside(0, 15)) {
            CHECK.refused("7 none, 16 bridges", RefusalsTest::full, INDEX, x -> x.build(p));
        }
    }

    private static void nameInNamesTheFirst() {
        for (int years : outside(1, 50)) {
            CHECK.refused("32 none, years", RefusalsTest::empty, INDEX, x -> x.nameIn(0, years));
            CHECK.refused("32 none, years", RefusalsTest::middling, INDEX,
                    x -> x.nameIn(6, years));
            CHECK.refused("32 none, years", RefusalsTest::full, INDEX, x -> x.nameIn(-1, years));
        }
    }
}
