/** Promises 20 to 25: names. */
public final class NamesTest {
    private static final Check CHECK = new Check("NamesTest");

    private NamesTest() {
    }

    public static void main(String[] args) {
        promise20ByWater();
        promise20ByLength();
        promise20WithoutAny();
        promise21Arguing();
        promise22IsArgued();
        promise23PlacesNamed();
        promise24GreatestName();
        promise25Nameless();
        CHECK.end();
    }

    private static void promise20ByWater() {
        RiverNames x = new RiverNames();
        x.addSpring(1, 30, 0);
        x.addSpring(2, 29, 0);
        x.addSpring(3, 30, 0);
        x.lead(0, 1);
        CHECK.due("20 one comes in with more", x.nameAt(1), 1);
        x.lead(2, 1);
        CHECK.due("20 even, the smaller number", x.nameAt(1), 1);
        RiverNames y = new RiverNames();
        y.addSpring(1, 30, 0);
        y.addSpring(2, 30, 0);
        y.addSpring(3, 30, 0);
        y.lead(2, 1);
        CHECK.due("20 the spring of the place has the smaller number", y.nameAt(1), 2);
        y.lead(0, 1);
        CHECK.due("20 the spring of the place has the greater number", y.nameAt(1), 1);
        RiverNames z = new RiverNames();
        z.addPlace();
        z.addSpring(4, 10, 0);
        z.addSpring(5, 12, 0);
        z.addSpring(6, 3, 0);
        z.lead(3, 1);
        z.lead(1, 0);
        z.lead(2, 0);
        CHECK.due("20 all the water of a place counts", z.nameAt(0), 4);
        z.addSpring(7, 13, 0);
        z.lead(4, 0);
        CHECK.due("20 even in all, the smaller number", z.nameAt(0), 4);
        z.addSpring(8, 14, 0);
        z.lead(5, 0);
        CHECK.due("20 most of all", z.nameAt(0), 8);
        z.turnDelta(1);
        z.turnDelta(5);
        CHECK.due("20 nameless ones do not argue", z.nameAt(0), 7);
    }

    private static void promise20ByLength() {
        RiverNames x = new RiverNames();
        x.setRule(1);
        x.addSpring(1, 99, 0);
        x.addSpring(2, 1, 0);
        x.lead(1, 0);
        CHECK.due("20 a spring of the place has no length", x.nameAt(0), 2);
        x.addSpring(3, 50, 0);
        x.lead(2, 0);
        CHECK.due("20 even in length, the smaller number", x.nameAt(0), 2);
        x.addPlace();
        x.lead(2, 3);
        x.lead(3, 0);
        CHECK.due("20 the longest", x.nameAt(0), 3);
        x.turnDelta(3);
        CHECK.due("20 a nameless one does not argue", x.nameAt(0), 2);
        x.turnDelta(1);
        CHECK.due("20 alone its own spring", x.nameAt(0), 1);
        RiverNames y = new RiverNames();
        y.setRule(1);
        y.addPlace();
        y.addPlace();
        y.addSpring(4, 1, 0);
        y.addSpring(5, 9, 0);
        y.lead(3, 1);
        y.lead(1, 0);
        y.lead(2, 0);
        CHECK.due("20 longer with a smaller number", y.nameAt(0), 5);
        y.addSpring(6, 1, 0);
        y.addPlace();
        y.lead(4, 5);
        y.lead(5, 0);
        CHECK.due("20 two as long", y.nameAt(0), 5);
    }

    private static void promise20WithoutAny() {
        RiverNames x = new RiverNames();
        x.addSpring(1, 2, -1);
        x.addPlace();
        x.lead(0, 1);
        x.pass(1);
        CHECK.due("20 not yet dry", x.nameAt(1), 1);
        x.pass(1);
        CHECK.due("20 dry", x.nameAt(0), -1);
        CHECK.due("20 below a dry one", x.nameAt(1), -1);
    }

    private static void promise21Arguing() {
        RiverNames x = new RiverNames();
        x.addPlace();
        CHECK.due("21 none", x.arguing(0), 0);
        x.addSpring(1, 5, 0);
        x.addSpring(1, 5, 0);
        x.addSpring(2, 0, 1);
        x.addPlace();
        for (int place = 1; place < 5; place++) {
            x.lead(place, 0);
        }
        CHECK.due("21 neither the dry nor the bare one", x.arguing(0), 2);
        CHECK.due("21 a spring alone", x.arguing(1), 1);
        CHECK.due("21 a dry spring", x.arguing(3), 0);
        x.pass(1);
        CHECK.due("21 no more dry", x.arguing(0), 3);
        x.addSpring(3, 5, 0);
        x.lead(0, 5);
        CHECK.due("21 its own spring and one", x.arguing(5), 2);
        x.turnDelta(1);
        CHECK.due("21 below a delta", x.arguing(0), 2);
        x.turnDelta(5);
        CHECK.due("21 at a delta", x.arguing(5), 0);
    }

    private static void promise22IsArgued() {
        RiverNames x = new RiverNames();
        x.addPlace();
        CHECK.due("22 none", x.isArgued(0), false);
        x.addSpring(1, 5, 0);
        x.addSpring(1, 6, 0);
        x.addSpring(2, 0, 1);
        x.lead(1, 0);
        CHECK.due("22 one", x.isArgued(0), false);
        x.lead(2, 0);
        x.lead(3, 0);
        CHECK.due("22 all the same name", x.isArgued(0), false);
        x.pass(1);
        CHECK.due("22 the last has another name", x.isArgued(0), true);
        x.turnDelta(0);
        CHECK.due("22 at a delta", x.isArgued(0), false);
        RiverNames y = new RiverNames();
        y.addSpring(1, 1, 0);
        y.addSpring(2, 2, 0);
        y.addSpring(2, 3, 0);
        y.lead(1, 0);
        y.lead(2, 0);
        CHECK.due("22 the first has another name", y.isArgued(0), true);
        RiverNames z = new RiverNames();
        z.addSpring(1, 1, 0);
        z.addSpring(2, 2, 0);
        z.addSpring(1, 3, 0);
        z.lead(1, 0);
        z.lead(2, 0);
        CHECK.due("22 the one in between has another name", z.isArgued(0), true);
    }

    private static void promise23PlacesNamed() {
        RiverNames x = new RiverNames();
        for (int name = 0; name < 10; name++) {
            CHECK.due("23 none", x.placesNamed(name), 0);
        }
        x.addSpring(0, 5, 0);
        x.addPlace();
        x.addPlace();
        x.addSpring(9, 0, 0);
        x.addSpring(9, 1, 0);
        x.lead(0, 1);
        x.lead(1, 2);
        CHECK.due("23 0", x.placesNamed(0), 3);
        CHECK.due("23 9, not the dry one", x.placesNamed(9), 1);
        CHECK.due("23 5", x.placesNamed(5), 0);
        x.turnDelta(1);
        CHECK.due("23 0 with a delta", x.placesNamed(0), 1);
    }

    private static void promise24GreatestName() {
        RiverNames x = new RiverNames();
        CHECK.due("24 no place", x.greatestName(), -1);
        x.addPlace();
        x.addSpring(3, 0, 5);
        CHECK.due("24 no name", x.greatestName(), -1);
        x.addSpring(9, 1, 0);
        CHECK.due("24 alone", x.greatestName(), 9);
        x.addSpring(4, 1, 0);
        CHECK.due("24 even, the smallest", x.greatestName(), 4);
        x.lead(2, 0);
        CHECK.due("24 the most", x.greatestName(), 9);
        x.pass(1);
        x.addSpring(3, 1, 0);
        CHECK.due("24 even again", x.greatestName(), 3);
        RiverNames y = new RiverNames();
        y.addSpring(0, 1, 0);
        CHECK.due("24 0", y.greatestName(), 0);
    }

    private static void promise25Nameless() {
        RiverNames x = new RiverNames();
        CHECK.due("25 no place", x.nameless(), 0);
        x.addPlace();
        x.addSpring(1, 0, 1);
        x.addSpring(2, 5, 0);
        CHECK.due("25 a bare and a dry one", x.nameless(), 2);
        x.pass(1);
        CHECK.due("25 the bare one", x.nameless(), 1);
        x.turnDelta(2);
        CHECK.due("25 a delta", x.nameless(), 2);
    }
}
