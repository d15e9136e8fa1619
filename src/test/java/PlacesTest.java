/** Promises 9 to 19: places. */
public final class PlacesTest {
    private static final Check CHECK = new Check("PlacesTest");

    private PlacesTest() {
    }

    public static void main(String[] args) {
        promise9Year();
        promise10Places();
        promises11To13();
        promise14WaterAt();
        promise15LengthAt();
        promises16To18();
        promise19Meeting();
        longestWay();
        CHECK.end();
    }

    /** 0 and 1 lead to 2, 2 and 3 to 4, 4 to 5; 6 leads to 7. Springs at 0, 1 (dry), 3, 4, 6. */
    private static RiverNames land() {
        RiverNames x = new RiverNames();
        x.addSpring(1, 10, 0);
        x.addSpring(2, 0, 1);
        x.addPlace();
        x.addSpring(3, 20, 0);
        x.addSpring(4, 5, -1);
        x.addPlace();
        x.addSpring(6, 0, 0);
        x.addPlace();
        x.lead(0, 2);
        x.lead(1, 2);
        x.lead(2, 4);
        x.lead(3, 4);
        x.lead(4, 5);
        x.lead(6, 7);
        return x;
    }

    private static void promise9Year() {
        RiverNames x = land();
        CHECK.due("9 at first", x.year(), 0);
        x.pass(1);
        x.pass(50);
        CHECK.due("9 later", x.year(), 51);
        x.nameIn(0, 50);
        x.yearsUntilRenamed(0);
        CHECK.due("9 questions take no time", x.year(), 51);
    }

    private static void promise10Places() {
        RiverNames x = land();
        CHECK.due("10 places", x.places(), 8);
        x.addPlace();
        x.addSpring(0, 0, 0);
        CHECK.due("10 two more", x.places(), 10);
    }

    private static void promises11To13() {
        RiverNames x = land();
        int[] to = {2, 2, 4, 4, 5, -1, 7, -1};
        boolean[] sprung = {true, true, false, true, true, false, true, false};
        int[] spring = {10, 0, 0, 20, 5, 0, 0, 0};
        for (int place = 0; place < 8; place++) {
            CHECK.due("11 leadsTo " + place, x.leadsTo(place), to[place]);
            CHECK.due("12 hasSpring " + place, x.hasSpring(place), sprung[place]);
            CHECK.due("13 springOf " + place, x.springOf(place), spring[place]);
        }
        x.pass(5);
        CHECK.due("12 dried up", x.hasSpring(4), true);
        CHECK.due("13 dried up", x.springOf(4), 0);
        CHECK.due("13 swollen", x.springOf(1), 5);
    }

    private static void promise14WaterAt() {
        RiverNames x = land();
        int[] water = {10, 0, 10, 20, 35, 35, 0, 0};
        for (int place = 0; place < 8; place++) {
            CHECK.due("14 waterAt " + place, x.waterAt(place), water[place]);
        }
        x.lead(2, 6);
        CHECK.due("14 less where it left", x.waterAt(5), 25);
        CHECK.due("14 more where it went", x.waterAt(7), 10);
        x.turnDelta(6);
        CHECK.due("14 through a delta", x.waterAt(7), 10);
    }

    private static void promise15LengthAt() {
        RiverNames x = land();
        int[] length = {1, 0, 2, 1, 3, 4, 0, 0};
        for (int place = 0; place < 8; place++) {
            CHECK.due("15 lengthAt " + place, x.lengthAt(place), length[place]);
        }
        x.lead(2, 6);
        CHECK.due("15 a spring and one of length 1", x.lengthAt(4), 2);
        CHECK.due("15 a dry spring in between", x.lengthAt(6), 3);
        x.turnDelta(2);
        CHECK.due("15 through a delta", x.lengthAt(7), 4);
        RiverNames y = new RiverNames();
        y.addSpring(1, 1, -1);
        y.addPlace();
        y.addSpring(2, 1, 0);
        y.lead(0, 1);
        y.lead(1, 2);
        CHECK.due("15 all wet", y.lengthAt(2), 3);
        y.pass(1);
        CHECK.due("15 dry above", y.lengthAt(1), 0);
        CHECK.due("15 its own spring alone", y.lengthAt(2), 1);
    }

    private static void promises16To18() {
        RiverNames x = land();
        int[] mouth = {5, 5, 5, 5, 5, 5, 7, 7};
        int[] above = {0, 0, 2, 0, 4, 5, 0, 1};
        for (int place = 0; place < 8; place++) {
            CHECK.due("16 mouthOf " + place, x.mouthOf(place), mouth[place]);
            CHECK.due("17 isAbove itself " + place, x.isAbove(place, place), false);
            CHECK.due("18 placesAbove " + place, x.placesAbove(place), above[place]);
        }
        CHECK.due("17 at once", x.isAbove(0, 2), true);
        CHECK.due("17 over others", x.isAbove(0, 5), true);
        CHECK.due("17 below", x.isAbove(5, 0), false);
        CHECK.due("17 beside", x.isAbove(0, 1), false);
        CHECK.due("17 beside, farther on", x.isAbove(0, 3), false);
        CHECK.due("17 another river", x.isAbove(6, 5), false);
        x.lead(5, 6);
        CHECK.due("16 farther on", x.mouthOf(1), 7);
        CHECK.due("17 farther on", x.isAbove(1, 7), true);
        CHECK.due("18 farther on", x.placesAbove(7), 7);
    }

    private static void promise19Meeting() {
        RiverNames x = land();
        CHECK.due("19 both lead there", x.meeting(0, 1), 2);
        CHECK.due("19 one farther", x.meeting(0, 3), 4);
        CHECK.due("19 the other way round", x.meeting(3, 0), 4);
        CHECK.due("19 one itself", x.meeting(0, 4), 4);
        CHECK.due("19 the other itself", x.meeting(4, 0), 4);
        CHECK.due("19 the same", x.meeting(1, 1), 1);
        CHECK.due("19 the same mouth", x.meeting(5, 5), 5);
        CHECK.due("19 never", x.meeting(0, 6), -1);
        CHECK.due("19 never, mouths", x.meeting(7, 5), -1);
        CHECK.due("19 a mouth and its own", x.meeting(6, 7), 7);
    }

    /** All sixteen places in one way, against the order of their numbers. */
    private static void longestWay() {
        RiverNames x = new RiverNames();
        for (int place = 0; place < 16; place++) {
            x.addSpring(place % 10, 99, 0);
        }
        for (int place = 1; place < 16; place++) {
            x.lead(place, place - 1);
        }
        CHECK.due("14 the most water", x.waterAt(0), 16 * 99);
        CHECK.due("15 the greatest length", x.lengthAt(0), 16);
        CHECK.due("16 the farthest mouth", x.mouthOf(15), 0);
        CHECK.due("17 the farthest", x.isAbove(15, 0), true);
        CHECK.due("18 the most above", x.placesAbove(0), 15);
        CHECK.due("19 the farthest meeting", x.meeting(15, 0), 0);
        CHECK.due("20 even at 14, whose name goes all the way", x.nameAt(0), 4);
    }
}
