/**
 * The boundaries that the document names under "Terms", sentence by sentence; those of the promises
 * are in PromiseEdgesTest, the refused calls in RefusalsTest.
 */
public final class EdgesTest {
    private static final Check CHECK = new Check("EdgesTest");

    private EdgesTest() {
    }

    public static void main(String[] args) {
        usedForAtMost512Calls();
        timeIsToldInYearsFrom0();
        atMost16PlacesNumberedFrom0();
        leadsToNoneAtFirst();
        aboveOverOthersOrAtOnce();
        waysNeverLeadInARing();
        nameWhichOthersMayHaveAsWell();
        water0To99();
        heldAt0And99();
        everyWaterAndSwellInEveryYear();
        dryWithNoWater();
        waterOfAllThatLeadThereAtOnce();
        length1WithASpringThatIsNotDry();
        length1MoreThanTheGreatest();
        length0Otherwise();
        noNameAtADelta();
        withoutAnyThereIsNoName();
        byTheRule0MostWater();
        byTheRule0OfSeveral();
        byTheRule1TheLongest();
        byTheRule1OfSeveral();
        atMost16BridgesInOrder();
        keepsTheNameThatThereWas();
        insultedByAnotherNameOrNone();
        aYear();
        CHECK.end();
    }

    /** Springs that neither swell nor dry, one for each water, named 0, 1, 2 and so on. */
    private static RiverNames springs(int... waters) {
        RiverNames x = new RiverNames();
        for (int place = 0; place < waters.length; place++) {
            x.addSpring(place % 10, waters[place], 0);
        }
        return x;
    }

    /** Each place leads to the next one. */
    private static void leadInARow(RiverNames x, int... places) {
        for (int i = 0; i + 1 < places.length; i++) {
            x.lead(places[i], places[i + 1]);
        }
    }

    /** "An object is used for at most 512 calls": the last of them is as good as the first. */
    private static void usedForAtMost512Calls() {
        RiverNames x = new RiverNames();
        x.addSpring(9, 99, 9);
        x.build(0);
        for (int call = 3; call < 512; call++) {
            CHECK.due("pass", x.pass(50), 0);
        }
        CHECK.due("the 512th call, year", x.year(), 509 * 50);
        RiverNames y = springs(5);
        for (int call = 2; call < 512; call++) {
            CHECK.due("turn by turn", y.turnDelta(0), call % 2 == 0);
        }
        CHECK.due("the 512th call, nameAt", y.nameAt(0), 0);
    }

    /** "Time is told in years, from 0." */
    private static void timeIsToldInYearsFrom0() {
        RiverNames x = new RiverNames();
        CHECK.due("at first", x.year(), 0);
        x.addSpring(1, 1, 1);
        CHECK.due("before the first year has gone", x.year(), 0);
        x.pass(1);
        CHECK.due("behind it", x.year(), 1);
    }

    /** "At most 16, numbered from 0" */
    private static void atMost16PlacesNumberedFrom0() {
        RiverNames x = new RiverNames();
        for (int place = 0; place < 16; place++) {
            boolean bare = place % 3 == 1;
            CHECK.due("number", bare ? x.addPlace() : x.addSpring(9, place + 1, 0), place);
            CHECK.due("places", x.places(), place + 1);
        }
        for (int place = 0; place < 16; place++) {
            boolean bare = place % 3 == 1;
            CHECK.due("hasSpring " + place, x.hasSpring(place), !bare);
            CHECK.due("springOf " + place, x.springOf(place), bare ? 0 : place + 1);
            CHECK.due("nameAt " + place, x.nameAt(place), bare ? -1 : 9);
        }
        x.lead(15, 0);
        x.lead(14, 15);
        CHECK.due("the last one leads as others do", x.waterAt(0), 1 + 16 + 15);
        CHECK.due("and is led to as others are", x.mouthOf(14), 0);
    }

    /** "each leads to another place or to none (none, at first: there it ends in the sea)" */
    private static void leadsToNoneAtFirst() {
        RiverNames x = new RiverNames();
        x.addPlace();
        x.addSpring(0, 5, 0);
        for (int place = 0; place < 2; place++) {
            CHECK.due("leadsTo " + place, x.leadsTo(place), -1);
            CHECK.due("mouthOf " + place, x.mouthOf(place), place);
        }
        x.lead(1, 0);
        CHECK.due("leadsTo another", x.leadsTo(1), 0);
        CHECK.due("mouthOf another", x.mouthOf(1), 0);
        CHECK.due("a place added later", x.leadsTo(x.addPlace()), -1);
    }

    /** "A place is above another one, if its way leads there, over others or at once." */
    private static void aboveOverOthersOrAtOnce() {
        RiverNames x = springs(1, 1, 1, 1, 1);
        leadInARow(x, 2, 0, 3, 1);
        CHECK.due("at once", x.isAbove(2, 0), true);
        CHECK.due("at once, at the end", x.isAbove(3, 1), true);
        CHECK.due("over another", x.isAbove(2, 3), true);
        CHECK.due("over others", x.isAbove(2, 1), true);
        CHECK.due("not itself", x.isAbove(0, 0), false);
        CHECK.due("not the one below", x.isAbove(1, 2), false);
        CHECK.due("not one at the sea", x.isAbove(4, 1), false);
        CHECK.due("none above", x.placesAbove(2), 0);
        CHECK.due("all above", x.placesAbove(1), 3);
        x.lead(0, 4);
        CHECK.due("no more", x.isAbove(2, 1), false);
        CHECK.due("where it leads now", x.isAbove(2, 4), true);
        CHECK.due("one above is left", x.placesAbove(1), 1);
    }

    /** "Ways never lead in a ring." */
    private static void waysNeverLeadInARing() {
        for (int length = 2; length <= 16; length++) {
            RiverNames x = springs(new int[length]);
            for (int place = 1; place < length; place++) {
                x.lead(place, place - 1);
            }
            CHECK.due("a ring is refused", isLeadRefused(x, 0, length - 1), true);
            CHECK.due("the way still ends", x.mouthOf(length - 1), 0);
            CHECK.due("at the sea", x.leadsTo(0), -1);
        }
        RiverNames y = springs(1, 1, 1);
        y.lead(0, 1);
        CHECK.due("a ring now", isLeadRefused(y, 1, 0), true);
        y.lead(0, 2);
        CHECK.due("none any more", isLeadRefused(y, 1, 0), false);
        CHECK.due("over another", isLeadRefused(y, 2, 1), true);
        CHECK.due("its way", y.mouthOf(1), 2);
    }

    private static boolean isLeadRefused(RiverNames x, int place, int to) {
        try {
            x.lead(place, to);
            return false;
        } catch (IllegalStateException e) {
            return true;
        }
    }

    /** "A spring has a name, 0 to 9, which others may have as well" */
    private static void nameWhichOthersMayHaveAsWell() {
        for (int name = 0; name <= 9; name++) {
            RiverNames x = new RiverNames();
            for (int place = 0; place < 16; place++) {
                CHECK.due("the same name", x.addSpring(name, 1, 0), place);
            }
            CHECK.due("all have it", x.placesNamed(name), 16);
        }
    }

    /** "water, 0 to 99" */
    private static void water0To99() {
        for (int water = 0; water <= 99; water++) {
            RiverNames x = springs(water);
            CHECK.due("springOf", x.springOf(0), water);
            CHECK.due("waterAt", x.waterAt(0), water);
        }
    }

    /** "a swell, -9 to 9, by which it has more water each year, held at 0 and 99" */
    private static void heldAt0And99() {
        int[][] rows = {
            {90, 9, 99}, {91, 9, 99}, {89, 9, 98}, {98, 1, 99}, {99, 1, 99}, {99, 9, 99},
            {9, -9, 0}, {8, -9, 0}, {10, -9, 1}, {1, -1, 0}, {0, -1, 0}, {0, -9, 0},
            {0, 9, 9}, {99, -9, 90}, {0, 0, 0}, {99, 0, 99}};
        RiverNames x = new RiverNames();
        for (int[] row : rows) {
            x.addSpring(1, row[0], row[1]);
        }
        x.pass(1);
        for (int place = 0; place < rows.length; place++) {
            String what = rows[place][0] + " with a swell of " + rows[place][1];
            CHECK.due(what, x.springOf(place), rows[place][2]);
            CHECK.due(what + ", hasSpring", x.hasSpring(place), true);
            CHECK.due(what + ", name", x.nameAt(place), rows[place][2] == 0 ? -1 : 1);
        }
    }

    /** Every spring that there can be, year by year, and in one go. */
    private static void everyWaterAndSwellInEveryYear() {
        for (int swell = -9; swell <= 9; swell++) {
            for (int water = 0; water <= 99; water++) {
                RiverNames x = new RiverNames();
                x.addSpring(7, water, swell);
                RiverNames asked = new RiverNames();
                asked.addSpring(7, water, swell);
                int due = water;
                for (int years = 1; years <= 50; years++) {
                    due = due + swell < 0 ? 0 : due + swell > 99 ? 99 : due + swell;
                    x.pass(1);
                    String what = "water " + water + " swell " + swell + " years " + years;
                    CHECK.due(what, x.springOf(0), due);
                    CHECK.due(what + ", nameIn", asked.nameIn(0, years), due == 0 ? -1 : 7);
                    RiverNames y = new RiverNames();
                    y.addSpring(7, water, swell);
                    y.pass(years);
                    CHECK.due(what + ", in one go", y.springOf(0), due);
                }
            }
        }
    }

    /** "It is dry with no water." */
    private static void dryWithNoWater() {
        RiverNames x = springs(0, 1);
        for (int place = 0; place < 2; place++) {
            CHECK.due("hasSpring", x.hasSpring(place), true);
            CHECK.due("nameAt", x.nameAt(place), place == 0 ? -1 : 1);
            CHECK.due("lengthAt", x.lengthAt(place), place);
            CHECK.due("arguing", x.arguing(place), place);
        }
    }

    /** "that of its own spring, and of all places that lead to it at once, added" */
    private static void waterOfAllThatLeadThereAtOnce() {
        int[] full = new int[16];
        for (int place = 0; place < 16; place++) {
            full[place] = 99;
        }
        RiverNames star = springs(full);
        for (int place = 0; place < 16; place++) {
            if (place != 7) {
                star.lead(place, 7);
            }
        }
        CHECK.due("all at once", star.waterAt(7), 16 * 99);
        CHECK.due("its own alone", star.waterAt(8), 99);
        RiverNames x = springs(0, 40, 0, 2);
        x.addPlace();
        leadInARow(x, 3, 0, 4, 2, 1);
        CHECK.due("through a dry one", x.waterAt(0), 2);
        CHECK.due("through a bare one", x.waterAt(4), 2);
        CHECK.due("each counts once", x.waterAt(1), 42);
        x.turnDelta(4);
        CHECK.due("through a delta", x.waterAt(1), 42);
    }

    /** "The length of a place is 1, if it has a spring that is not dry" */
    private static void length1WithASpringThatIsNotDry() {
        RiverNames x = springs(1, 99, 5);
        CHECK.due("hardly any", x.lengthAt(0), 1);
        CHECK.due("full", x.lengthAt(1), 1);
        x.turnDelta(2);
        CHECK.due("a delta", x.lengthAt(2), 1);
        RiverNames y = springs(0, 5);
        y.lead(0, 1);
        CHECK.due("a dry one leads to it", y.lengthAt(1), 1);
    }

    /** "1 more than the greatest length of those places that lead to it at once ... not 0" */
    private static void length1MoreThanTheGreatest() {
        RiverNames x = springs(5, 5, 5, 0);
        x.addPlace();
        leadInARow(x, 0, 1, 2, 4, 3);
        CHECK.due("1 more, with a spring as well", x.lengthAt(1), 2);
        CHECK.due("1 more, at a bare place", x.lengthAt(4), 4);
        CHECK.due("1 more, with a dry spring", x.lengthAt(3), 5);
        RiverNames z = springs(5, 0, 5, 5, 5);
        z.addPlace();
        leadInARow(z, 4, 3, 2);
        z.lead(0, 2);
        z.lead(1, 2);
        z.lead(5, 2);
        CHECK.due("the greatest, and none of length 0", z.lengthAt(2), 3);
        z.lead(4, 5);
        CHECK.due("the greatest from elsewhere", z.lengthAt(2), 3);
        CHECK.due("now of length 1", z.lengthAt(3), 1);
        RiverNames y = springs(5, 5, 5);
        y.lead(0, 2);
        y.lead(1, 2);
        CHECK.due("two as long", y.lengthAt(2), 2);
    }

    /** "otherwise it is 0" */
    private static void length0Otherwise() {
        RiverNames x = springs(0, 0);
        x.addPlace();
        CHECK.due("dry", x.lengthAt(0), 0);
        CHECK.due("bare", x.lengthAt(2), 0);
        leadInARow(x, 0, 2, 1);
        CHECK.due("a dry one leads to a bare one", x.lengthAt(2), 0);
        CHECK.due("a bare one leads to a dry one", x.lengthAt(1), 0);
    }

    /** "At a delta there is no name." */
    private static void noNameAtADelta() {
        RiverNames x = springs(50, 60, 1);
        x.addPlace();
        leadInARow(x, 0, 1, 2);
        x.turnDelta(1);
        CHECK.due("neither its spring's nor a river's", x.nameAt(1), -1);
        CHECK.due("none argues", x.arguing(1), 0);
        CHECK.due("there is no dispute", x.isArgued(1), false);
        CHECK.due("above there is one", x.nameAt(0), 0);
        CHECK.due("below its spring is alone", x.nameAt(2), 2);
        CHECK.due("below its spring argues alone", x.arguing(2), 1);
        x.turnDelta(3);
        CHECK.due("a bare one", x.nameAt(3), -1);
        x.turnDelta(1);
        CHECK.due("no more a delta", x.nameAt(1), 1);
        CHECK.due("no more below one", x.nameAt(2), 1);
    }

    /** "those who argue are the spring of the place, if it is not dry, and each ... has a name" */
    private static void withoutAnyThereIsNoName() {
        RiverNames x = springs(0, 0, 7);
        x.addPlace();
        x.lead(0, 3);
        x.lead(1, 3);
        x.lead(2, 3);
        CHECK.due("a dry spring", x.nameAt(0), -1);
        CHECK.due("one argues, two have no name", x.arguing(3), 1);
        CHECK.due("the name of the one", x.nameAt(3), 2);
        x.turnDelta(2);
        CHECK.due("water, but no name", x.waterAt(3), 7);
        CHECK.due("without any who argues", x.nameAt(3), -1);
        CHECK.due("none argues", x.arguing(3), 0);
        CHECK.due("a bare place", x.nameAt(x.addPlace()), -1);
    }

    /** "By the rule 0 wins who has the most water" */
    private static void byTheRule0MostWater() {
        RiverNames x = springs(10, 8, 9);
        x.lead(1, 0);
        x.lead(2, 0);
        CHECK.due("a spring by its own water", x.nameAt(0), 0);
        x.addSpring(3, 11, 0);
        x.lead(3, 0);
        CHECK.due("one more is enough", x.nameAt(0), 3);
        x.addSpring(4, 4, 0);
        x.lead(4, 1);
        CHECK.due("a river by all its water", x.nameAt(0), 1);
        x.addSpring(5, 90, 0);
        x.lead(5, 4);
        x.turnDelta(5);
        CHECK.due("the water of a delta as well", x.nameAt(1), 4);
        CHECK.due("farther on", x.nameAt(0), 4);
        RiverNames y = springs(98, 99);
        y.lead(1, 0);
        CHECK.due("99 before 98", y.nameAt(0), 1);
        RiverNames z = springs(99, 98);
        z.lead(1, 0);
        CHECK.due("98 behind 99", z.nameAt(0), 0);
    }

    /** "of several by either rule the place with the smallest number, the spring ... of the place" */
    private static void byTheRule0OfSeveral() {
        for (int place = 0; place < 16; place++) {
            RiverNames x = new RiverNames();
            for (int i = 0; i < 16; i++) {
                x.addSpring(i == 0 ? 8 : i == 1 ? 9 : i % 8, 20, 0);
            }
            for (int i = 15; i >= 0; i--) {
                if (i != place) {
                    x.lead(i, place);
                }
            }
            CHECK.due("16 who are even, at " + place, x.nameAt(place), 8);
            x.turnDelta(0);
            CHECK.due("without the first", x.nameAt(place), place == 0 ? -1 : 9);
        }
        RiverNames y = springs(4, 5, 5, 5);
        y.lead(3, 2);
        y.lead(0, 2);
        CHECK.due("its spring before a greater number", y.nameAt(2), 2);
        y.lead(1, 2);
        CHECK.due("a smaller number before its spring", y.nameAt(2), 1);
    }

    /** "by the rule 1 who is the longest, a spring of the place itself with a length of 0" */
    private static void byTheRule1TheLongest() {
        RiverNames x = springs(99, 1, 50, 50);
        x.setRule(1);
        CHECK.due("a spring alone wins", x.nameAt(0), 0);
        x.lead(1, 0);
        CHECK.due("its spring is shorter than any", x.nameAt(0), 1);
        leadInARow(x, 3, 2, 0);
        CHECK.due("the longest", x.nameAt(0), 3);
        x.turnDelta(3);
        CHECK.due("the length above a delta counts, not its name", x.nameAt(0), 2);
        x.turnDelta(2);
        CHECK.due("who has no name does not argue", x.nameAt(0), 1);
        RiverNames y = springs(1, 1, 99);
        y.setRule(1);
        y.lead(0, 2);
        y.lead(1, 2);
        CHECK.due("rivers before its spring", y.nameAt(2), 0);
    }

    private static void byTheRule1OfSeveral() {
        for (int place = 0; place < 16; place++) {
            RiverNames x = new RiverNames();
            x.setRule(1);
            for (int i = 0; i < 16; i++) {
                x.addSpring(i == 0 ? 8 : i == 1 ? 9 : i % 8, i + 1, 0);
            }
            for (int i = 15; i >= 0; i--) {
                if (i != place) {
                    x.lead(i, place);
                }
            }
            CHECK.due("15 who are as long, at " + place, x.nameAt(place), place == 0 ? 9 : 8);
            x.turnDelta(0);
            int due = place == 0 ? -1 : place == 1 ? 2 : 9;
            CHECK.due("without the first", x.nameAt(place), due);
        }
    }

    /** "Bridges. At most 16, numbered from 0 in the order in which they are built" */
    private static void atMost16BridgesInOrder() {
        RiverNames x = springs(new int[16]);
        for (int bridge = 0; bridge < 16; bridge++) {
            CHECK.due("number", x.build(15 - bridge), bridge);
            CHECK.due("bridges", x.bridges(), bridge + 1);
        }
        for (int bridge = 0; bridge < 16; bridge++) {
            CHECK.due("placeOf " + bridge, x.placeOf(bridge), 15 - bridge);
            CHECK.due("keeps " + bridge, x.keeps(bridge), -1);
        }
        RiverNames y = springs(5, 5);
        for (int bridge = 0; bridge < 16; bridge++) {
            CHECK.due("all at one place", y.build(1), bridge);
        }
        y.turnDelta(1);
        CHECK.due("all insulted", y.insults(), 16);
        CHECK.due("all there", y.insultsAt(1), 16);
        CHECK.due("none elsewhere", y.insultsAt(0), 0);
        CHECK.due("pass tells them all", y.pass(1), 16);
    }

    /** "it keeps the name that there was as it was built (-1 for none)" */
    private static void keepsTheNameThatThereWas() {
        RiverNames x = springs(5, 0, 5);
        x.addPlace();
        x.turnDelta(2);
        for (int place = 0; place < 4; place++) {
            x.build(place);
        }
        int[] due = {0, -1, -1, -1};
        for (int bridge = 0; bridge < 4; bridge++) {
            CHECK.due("keeps " + bridge, x.keeps(bridge), due[bridge]);
        }
        x.turnDelta(0);
        x.turnDelta(2);
        x.lead(2, 3);
        x.build(0);
        x.build(2);
        x.build(3);
        int[] later = {0, -1, -1, -1, -1, 2, 2};
        for (int bridge = 0; bridge < 7; bridge++) {
            CHECK.due("later, keeps " + bridge, x.keeps(bridge), later[bridge]);
        }
    }

    /** "It is insulted, if the place has another name now, or none, while it keeps one." */
    private static void insultedByAnotherNameOrNone() {
        RiverNames x = springs(5, 9);
        x.addPlace();
        x.build(2);
        x.lead(0, 2);
        CHECK.due("it keeps none, there is a name", x.isInsulted(0), false);
        x.build(2);
        CHECK.due("it keeps the name", x.isInsulted(1), false);
        x.lead(1, 2);
        CHECK.due("another name", x.isInsulted(1), true);
        x.turnDelta(2);
        CHECK.due("none", x.isInsulted(1), true);
        CHECK.due("it keeps none, there is none", x.isInsulted(0), false);
        x.turnDelta(2);
        x.lead(1, 0);
        CHECK.due("another name from there", x.isInsulted(1), true);
        x.turnDelta(1);
        CHECK.due("its name again", x.isInsulted(1), false);
        CHECK.due("none at last", x.insults(), 0);
    }

    /** "A year goes like this: each spring swells; the year is 1 greater." */
    private static void aYear() {
        RiverNames x = new RiverNames();
        for (int place = 0; place < 15; place++) {
            x.addSpring(place % 10, 50, place - 7 < -9 ? -9 : Math.min(9, place - 7));
        }
        x.addPlace();
        x.turnDelta(3);
        x.lead(4, 5);
        x.setRule(1);
        for (int year = 1; year <= 3; year++) {
            x.pass(1);
            CHECK.due("the year", x.year(), year);
            for (int place = 0; place < 15; place++) {
                CHECK.due("each spring", x.springOf(place), 50 + year * (place - 7));
            }
            CHECK.due("no spring", x.springOf(15), 0);
        }
        CHECK.due("the rule stays", x.setRule(0), 1);
        CHECK.due("a delta stays", x.turnDelta(3), false);
        CHECK.due("a way stays", x.leadsTo(4), 5);
    }
}
