/** Promises 1 to 8: the land. */
public final class LandTest {
    private static final Check CHECK = new Check("LandTest");

    private LandTest() {
    }

    public static void main(String[] args) {
        promise1NewObject();
        promise2AddPlace();
        promise3AddSpring();
        promise4Lead();
        promise5TurnDelta();
        promise6SetRule();
        promise7Build();
        promise8Pass();
        promise8SpringsAreHeld();
        CHECK.end();
    }

    private static void promise1NewObject() {
        RiverNames x = new RiverNames();
        CHECK.due("1 places", x.places(), 0);
        CHECK.due("1 bridges", x.bridges(), 0);
        CHECK.due("1 year", x.year(), 0);
        CHECK.due("1 rule before", x.setRule(1), 0);
        RiverNames other = new RiverNames();
        CHECK.due("1 another object has its own rule", other.setRule(0), 0);
        other.addPlace();
        CHECK.due("1 another object has its own places", x.places(), 0);
    }

    private static void promise2AddPlace() {
        RiverNames x = new RiverNames();
        for (int place = 0; place < 16; place++) {
            CHECK.due("2 addPlace", x.addPlace(), place);
            CHECK.due("2 hasSpring", x.hasSpring(place), false);
            CHECK.due("2 leadsTo", x.leadsTo(place), -1);
            CHECK.due("2 nameAt", x.nameAt(place), -1);
            CHECK.due("2 waterAt", x.waterAt(place), 0);
            CHECK.due("2 lengthAt", x.lengthAt(place), 0);
        }
        CHECK.due("2 places", x.places(), 16);
    }

    private static void promise3AddSpring() {
        RiverNames x = new RiverNames();
        CHECK.due("3 least of all", x.addSpring(0, 0, -9), 0);
        CHECK.due("3 most of all", x.addSpring(9, 99, 9), 1);
        CHECK.due("3 after a bare place", x.addPlace() + x.addSpring(9, 7, 0), 5);
        CHECK.due("3 dry hasSpring", x.hasSpring(0), true);
        CHECK.due("3 dry springOf", x.springOf(0), 0);
        CHECK.due("3 dry nameAt", x.nameAt(0), -1);
        CHECK.due("3 full springOf", x.springOf(1), 99);
        CHECK.due("3 full nameAt", x.nameAt(1), 9);
        CHECK.due("3 leadsTo", x.leadsTo(1), -1);
        CHECK.due("3 the same name again", x.placesNamed(9), 2);
        RiverNames y = new RiverNames();
        for (int place = 0; place < 16; place++) {
            CHECK.due("3 addSpring", y.addSpring(place % 10, place, 0), place);
            CHECK.due("3 its name", y.nameAt(place), place == 0 ? -1 : place % 10);
        }
    }

    private static void promise4Lead() {
        RiverNames x = new RiverNames();
        x.addSpring(1, 10, 0);
        x.addPlace();
        x.addPlace();
        CHECK.due("4 from the sea", x.lead(0, 1), -1);
        CHECK.due("4 the same again", x.lead(0, 1), 1);
        CHECK.due("4 to another", x.lead(0, 2), 1);
        CHECK.due("4 leadsTo", x.leadsTo(0), 2);
        CHECK.due("4 no name where it led before", x.nameAt(1), -1);
        CHECK.due("4 the name where it leads", x.nameAt(2), 1);
        CHECK.due("4 from 2 to 1", x.lead(2, 1), -1);
        CHECK.due("4 the name went on", x.nameAt(1), 1);
        CHECK.due("4 a shorter way", x.lead(0, 1), 2);
        CHECK.due("4 length of the shorter way", x.lengthAt(1), 2);
    }

    private static void promise5TurnDelta() {
        RiverNames x = new RiverNames();
        x.addSpring(4, 10, 0);
        x.addPlace();
        x.lead(0, 1);
        CHECK.due("5 made", x.turnDelta(0), true);
        CHECK.due("5 forgets its own spring", x.nameAt(0), -1);
        CHECK.due("5 has no name to give on", x.nameAt(1), -1);
        CHECK.due("5 water flows on", x.waterAt(1), 10);
        CHECK.due("5 length goes on", x.lengthAt(1), 2);
        CHECK.due("5 unmade", x.turnDelta(0), false);
        CHECK.due("5 remembers", x.nameAt(1), 4);
        CHECK.due("5 a bare place", x.turnDelta(1), true);
        CHECK.due("5 above it the name stays", x.nameAt(0), 4);
    }

    private static void promise6SetRule() {
        RiverNames x = new RiverNames();
        x.addSpring(1, 1, 0);
        x.addPlace();
        x.addSpring(2, 50, 0);
        x.addPlace();
        x.lead(0, 1);
        x.lead(1, 3);
        x.lead(2, 3);
        CHECK.due("6 by water", x.nameAt(3), 2);
        CHECK.due("6 setRule(1)", x.setRule(1), 0);
        CHECK.due("6 by length", x.nameAt(3), 1);
        CHECK.due("6 setRule(1) again", x.setRule(1), 1);
        CHECK.due("6 setRule(0)", x.setRule(0), 1);
        CHECK.due("6 by water again", x.nameAt(3), 2);
        CHECK.due("6 setRule(0) again", x.setRule(0), 0);
    }

    private static void promise7Build() {
        RiverNames x = new RiverNames();
        x.addSpring(1, 10, 0);
        x.addPlace();
        for (int bridge = 0; bridge < 16; bridge++) {
            CHECK.due("7 build", x.build(bridge % 2), bridge);
        }
        CHECK.due("7 bridges", x.bridges(), 16);
    }

    private static void promise8Pass() {
        RiverNames x = new RiverNames();
        x.addSpring(1, 20, -2);
        x.addSpring(2, 10, 3);
        x.addPlace();
        x.lead(0, 2);
        x.lead(1, 2);
        x.build(2);
        x.build(0);
        x.build(2);
        CHECK.due("8 even, the smaller number", x.pass(2), 0);
        CHECK.due("8 springOf 0", x.springOf(0), 16);
        CHECK.due("8 springOf 1", x.springOf(1), 16);
        CHECK.due("8 a year more", x.pass(1), 2);
        CHECK.due("8 year", x.year(), 3);
        CHECK.due("8 the first dries up", x.pass(50), 3);
        CHECK.due("8 year at last", x.year(), 53);
        CHECK.due("8 an empty land", new RiverNames().pass(1), 0);
    }

    private static void promise8SpringsAreHeld() {
        RiverNames x = new RiverNames();
        x.addSpring(1, 95, 9);
        x.addSpring(2, 5, -9);
        x.addSpring(3, 0, 2);
        x.addSpring(4, 98, 1);
        x.addSpring(5, 1, -1);
        x.addSpring(6, 7, 0);
        x.addPlace();
        x.pass(1);
        CHECK.due("8 held at 99", x.springOf(0), 99);
        CHECK.due("8 held at 0", x.springOf(1), 0);
        CHECK.due("8 a dry one swells", x.springOf(2), 2);
        CHECK.due("8 its name comes", x.nameAt(2), 3);
        CHECK.due("8 just 99", x.springOf(3), 99);
        CHECK.due("8 just 0", x.springOf(4), 0);
        CHECK.due("8 a dried one has no name", x.nameAt(4), -1);
        CHECK.due("8 no swell", x.springOf(5), 7);
        CHECK.due("8 no spring", x.springOf(6), 0);
        x.pass(49);
        CHECK.due("8 stays at 99", x.springOf(0), 99);
        CHECK.due("8 stays at 0", x.springOf(1), 0);
        CHECK.due("8 goes on at last to 99", x.springOf(2), 99);
        CHECK.due("8 no swell at last", x.springOf(5), 7);
    }
}
