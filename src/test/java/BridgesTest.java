/** Promises 26 to 31: bridges. */
public final class BridgesTest {
    private static final Check CHECK = new Check("BridgesTest");

    private BridgesTest() {
    }

    public static void main(String[] args) {
        promises26To28();
        promise29IsInsulted();
        promises30And31();
        CHECK.end();
    }

    /** 0 (name 1, drying up) and 1 (name 2) lead to 2, which is bare as 3 is. */
    private static RiverNames land() {
        RiverNames x = new RiverNames();
        x.addSpring(1, 10, -4);
        x.addSpring(2, 5, 0);
        x.addPlace();
        x.addPlace();
        x.lead(0, 2);
        x.lead(1, 2);
        return x;
    }

    private static void promises26To28() {
        RiverNames x = land();
        CHECK.due("26 none", x.bridges(), 0);
        x.build(2);
        x.build(3);
        x.build(1);
        x.build(2);
        CHECK.due("26 four", x.bridges(), 4);
        int[] places = {2, 3, 1, 2};
        int[] kept = {1, -1, 2, 1};
        for (int bridge = 0; bridge < 4; bridge++) {
            CHECK.due("27 placeOf " + bridge, x.placeOf(bridge), places[bridge]);
            CHECK.due("28 keeps " + bridge, x.keeps(bridge), kept[bridge]);
        }
        x.pass(2);
        x.build(2);
        CHECK.due("28 keeps the name of its day", x.keeps(0), 1);
        CHECK.due("28 a later day", x.keeps(4), 2);
        CHECK.due("26 five", x.bridges(), 5);
    }

    private static void promise29IsInsulted() {
        RiverNames x = land();
        x.build(2);
        x.build(0);
        x.build(3);
        CHECK.due("29 not yet", x.isInsulted(0), false);
        x.pass(2);
        CHECK.due("29 another name", x.isInsulted(0), true);
        CHECK.due("29 still the same", x.isInsulted(1), false);
        x.pass(1);
        CHECK.due("29 no name any more", x.isInsulted(1), true);
        x.lead(1, 3);
        CHECK.due("29 none kept, a name now", x.isInsulted(2), false);
        CHECK.due("29 none any more", x.isInsulted(0), true);
        x.addSpring(1, 9, 0);
        x.lead(4, 2);
        CHECK.due("29 the same name from elsewhere", x.isInsulted(0), false);
        x.turnDelta(2);
        CHECK.due("29 at a delta", x.isInsulted(0), true);
        x.turnDelta(2);
        CHECK.due("29 no more a delta", x.isInsulted(0), false);
    }

    private static void promises30And31() {
        RiverNames x = land();
        CHECK.due("30 none", x.insults(), 0);
        x.build(2);
        x.build(2);
        x.build(0);
        x.build(3);
        CHECK.due("30 not yet", x.insults(), 0);
        CHECK.due("31 not yet", x.insultsAt(2), 0);
        x.turnDelta(2);
        x.build(2);
        CHECK.due("30 two", x.insults(), 2);
        CHECK.due("31 two, not the one that keeps none", x.insultsAt(2), 2);
        CHECK.due("31 none", x.insultsAt(0), 0);
        x.turnDelta(0);
        CHECK.due("30 three", x.insults(), 3);
        CHECK.due("31 one", x.insultsAt(0), 1);
        CHECK.due("31 still two", x.insultsAt(2), 2);
        CHECK.due("31 no bridge", x.insultsAt(1), 0);
        CHECK.due("8 pass tells them", x.pass(1), 3);
    }
}
