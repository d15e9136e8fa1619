/**
 * A council of rivers' names: places lead to one another, names argue where rivers meet, deltas
 * forget names, and bridges keep the name of the day on which they were built.
 */
public final class RiverNames {
    private static final int MOST_PLACES = 16;
    private static final int MOST_BRIDGES = 16;
    private static final int ALL_NAMES = 10;
    private static final int MOST_WATER = 99;
    private static final int MOST_SWELL = 9;
    private static final int MOST_YEARS = 50;
    private static final int NONE = -1;
    private static final int BY_WATER = 0;
    private static final int BY_LENGTH = 1;

    private final Land land;
    /** Questions of what would be are tried out here: made once, so that no call makes anything. */
    private final Land trial;
    private final int[] bridgePlaces;
    private final int[] bridgeNames;
    private int bridgeCount;
    private int yearNow;

    public RiverNames() {
        land = new Land();
        trial = new Land();
        bridgePlaces = new int[MOST_BRIDGES];
        bridgeNames = new int[MOST_BRIDGES];
        bridgeCount = 0;
        yearNow = 0;
    }

    // ---- the land

    public int addPlace() throws IllegalStateException {
        requireRoomForPlace();
        return land.addBare();
    }

    public int addSpring(int name, int water, int swell)
            throws IndexOutOfBoundsException, IllegalArgumentException, IllegalStateException {
        requireName(name);
        if (!isWithin(water, 0, MOST_WATER)) {
            throw new IllegalArgumentException("water is 0 to 99");
        }
        if (!isWithin(swell, -MOST_SWELL, MOST_SWELL)) {
            throw new IllegalArgumentException("swell is -9 to 9");
        }
        requireRoomForPlace();
        return land.addSprung(name, water, swell);
    }

    public int lead(int place, int to) throws IndexOutOfBoundsException, IllegalStateException {
        requirePlace(place);
        requirePlace(to);
        if (place == to) {
            throw new IllegalStateException("a place does not lead to itself");
        }
        if (land.flowsTo(to, place)) {
            throw new IllegalStateException("ways do not lead in a ring");
        }
        int before = land.next(place);
        land.leadOn(place, to);
        return before;
    }

    public boolean turnDelta(int place) throws IndexOutOfBoundsException {
        requirePlace(place);
        land.toggleDelta(place);
        return land.isDelta(place);
    }

    public int setRule(int rule) throws IllegalArgumentException {
        if (!isWithin(rule, BY_WATER, BY_LENGTH)) {
            throw new IllegalArgumentException("the rule is 0 or 1");
        }
        int before = land.ruleNow();
        land.useRule(rule);
        return before;
    }

    public int build(int place) throws IndexOutOfBoundsException, IllegalStateException {
        requirePlace(place);
        if (bridgeCount >= MOST_BRIDGES) {
            throw new IllegalStateException("there are 16 bridges");
        }
        int bridge = bridgeCount;
        bridgePlaces[bridge] = place;
        bridgeNames[bridge] = land.nameOf(place);
        bridgeCount++;
        return bridge;
    }

    public int pass(int years) throws IllegalArgumentException {
        requireYears(years);
        land.swellFor(years);
        yearNow += years;
        return countInsults();
    }

    // ---- places

    public int year() {
        return yearNow;
    }

    public int places() {
        return land.size();
    }

    public int leadsTo(int place) throws IndexOutOfBoundsException {
        requirePlace(place);
        return land.next(place);
    }

    public boolean hasSpring(int place) throws IndexOutOfBoundsException {
        requirePlace(place);
        return land.isSprung(place);
    }

    public int springOf(int place) throws IndexOutOfBoundsException {
        requirePlace(place);
        return land.springWaterOf(place);
    }

    public int waterAt(int place) throws IndexOutOfBoundsException {
        requirePlace(place);
        return land.waterOf(place);
    }

    public int lengthAt(int place) throws IndexOutOfBoundsException {
        requirePlace(place);
        return land.lengthOf(place);
    }

    public int mouthOf(int place) throws IndexOutOfBoundsException {
        requirePlace(place);
        return land.lastOnWay(place);
    }

    public boolean isAbove(int place, int other) throws IndexOutOfBoundsException {
        requirePlace(place);
        requirePlace(other);
        return land.flowsTo(place, other);
    }

    public int placesAbove(int place) throws IndexOutOfBoundsException {
        requirePlace(place);
        int above = 0;
        for (int other = 0; other < land.size(); other++) {
            if (land.flowsTo(other, place)) {
                above++;
            }
        }
        return above;
    }

    public int meeting(int a, int b) throws IndexOutOfBoundsException {
        requirePlace(a);
        requirePlace(b);
        return land.firstCommon(a, b);
    }

    // ---- names

    public int nameAt(int place) throws IndexOutOfBoundsException {
        requirePlace(place);
        return land.nameOf(place);
    }

    public int arguing(int place) throws IndexOutOfBoundsException {
        requirePlace(place);
        return land.arguersAt(place);
    }

    public boolean isArgued(int place) throws IndexOutOfBoundsException {
        requirePlace(place);
        return land.isDisputed(place);
    }

    public int placesNamed(int name) throws IndexOutOfBoundsException {
        requireName(name);
        return land.countNamed(name);
    }

    public int greatestName() {
        int greatest = NONE;
        int most = 0;
        for (int name = 0; name < ALL_NAMES; name++) {
            int named = land.countNamed(name);
            if (named > most) {
                most = named;
                greatest = name;
            }
        }
        return greatest;
    }

    public int nameless() {
        return land.countNamed(NONE);
    }

    // ---- bridges

    public int bridges() {
        return bridgeCount;
    }

    public int placeOf(int bridge) throws IndexOutOfBoundsException {
        requireBridge(bridge);
        return bridgePlaces[bridge];
    }

    public int keeps(int bridge) throws IndexOutOfBoundsException {
        requireBridge(bridge);
        return bridgeNames[bridge];
    }

    public boolean isInsulted(int bridge) throws IndexOutOfBoundsException {
        requireBridge(bridge);
        return suffersInsult(bridge);
    }

    public int insults() {
        return countInsults();
    }

    public int insultsAt(int place) throws IndexOutOfBoundsException {
        requirePlace(place);
        int insulted = 0;
        for (int bridge = 0; bridge < bridgeCount; bridge++) {
            if (bridgePlaces[bridge] == place && suffersInsult(bridge)) {
                insulted++;
            }
        }
        return insulted;
    }

    // ---- what would be

    public int nameIn(int place, int years)
            throws IndexOutOfBoundsException, IllegalArgumentException {
        requirePlace(place);
        requireYears(years);
        trial.takeOver(land);
        trial.swellFor(years);
        return trial.nameOf(place);
    }

    public int yearsUntilRenamed(int place) throws IndexOutOfBoundsException {
        requirePlace(place);
        trial.takeOver(land);
        for (int years = 1; years <= MOST_YEARS; years++) {
            trial.swellFor(1);
            if (trial.nameOf(place) != land.nameOf(place)) {
                return years;
            }
        }
        return NONE;
    }

    public int weightiestSpring() {
        int weightiest = NONE;
        // A wet spring that renames no place still counts for more than no spring at all.
        int most = -1;
        for (int place = 0; place < land.size(); place++) {
            if (land.springWaterOf(place) == 0) {
                continue;
            }
            trial.takeOver(land);
            trial.dryUp(place);
            int renamed = trial.countNamedOtherThan(land);
            if (renamed > most) {
                most = renamed;
                weightiest = place;
            }
        }
        return weightiest;
    }

    public int renamedByDelta(int place) throws IndexOutOfBoundsException {
        requirePlace(place);
        trial.takeOver(land);
        trial.toggleDelta(place);
        return trial.countNamedOtherThan(land);
    }

    public int renamedByRule() {
        trial.takeOver(land);
        trial.useRule(land.ruleNow() == BY_WATER ? BY_LENGTH : BY_WATER);
        return trial.countNamedOtherThan(land);
    }

    public double meanMouth() {
        int mouths = 0;
        int water = 0;
        for (int place = 0; place < land.size(); place++) {
            if (land.next(place) == NONE) {
                mouths++;
                water += land.waterOf(place);
            }
        }
        return mouths == 0 ? 0.0 : (double) water / (double) mouths;
    }

    public long digest() {
        long sum = 2027L;
        sum = mix(sum, yearNow);
        sum = mix(sum, land.size());
        sum = mix(sum, bridgeCount);
        sum = mix(sum, countInsults());
        sum = mix(sum, greatestName());
        sum = mix(sum, nameless());
        sum = mix(sum, weightiestSpring());
        sum = mix(sum, renamedByRule());
        for (int place = 0; place < land.size(); place++) {
            sum = mixPlace(sum, place);
        }
        for (int bridge = 0; bridge < bridgeCount; bridge++) {
            sum = mixBridge(sum, bridge);
        }
        return sum;
    }

    private long mixPlace(long before, int place) {
        long sum = before;
        sum = mix(sum, leadsTo(place));
        sum = mix(sum, bit(hasSpring(place)));
        sum = mix(sum, springOf(place));
        sum = mix(sum, waterAt(place));
        sum = mix(sum, lengthAt(place));
        sum = mix(sum, mouthOf(place));
        sum = mix(sum, placesAbove(place));
        sum = mix(sum, nameAt(place));
        sum = mix(sum, arguing(place));
        sum = mix(sum, bit(isArgued(place)));
        return sum;
    }

    private long mixBridge(long before, int bridge) {
        long sum = before;
        sum = mix(sum, placeOf(bridge));
        sum = mix(sum, keeps(bridge));
        sum = mix(sum, bit(isInsulted(bridge)));
        return sum;
    }

    private static long mix(long sum, long number) {
        return sum * 31L + number;
    }

    private static long bit(boolean isSo) {
        return isSo ? 1L : 0L;
    }

    private boolean suffersInsult(int bridge) {
        int kept = bridgeNames[bridge];
        return kept != NONE && kept != land.nameOf(bridgePlaces[bridge]);
    }

    private int countInsults() {
        int insulted = 0;
        for (int bridge = 0; bridge < bridgeCount; bridge++) {
            if (suffersInsult(bridge)) {
                insulted++;
            }
        }
        return insulted;
    }

    private static boolean isWithin(int number, int least, int most) {
        return number >= least && number <= most;
    }

    private void requirePlace(int place) {
        if (!land.isPlace(place)) {
            throw new IndexOutOfBoundsException("there is no such place");
        }
    }

    private void requireBridge(int bridge) {
        if (bridge < 0 || bridge >= bridgeCount) {
            throw new IndexOutOfBoundsException("there is no such bridge");
        }
    }

    private void requireRoomForPlace() {
        if (land.size() >= MOST_PLACES) {
            throw new IllegalStateException("there are 16 places");
        }
    }

    private static void requireName(int name) {
        if (!isWithin(name, 0, ALL_NAMES - 1)) {
            throw new IndexOutOfBoundsException("a name is 0 to 9");
        }
    }

    private static void requireYears(int years) {
        if (!isWithin(years, 1, MOST_YEARS)) {
            throw new IllegalArgumentException("years are 1 to 50");
        }
    }

    /**
     * The places, their ways, springs and deltas, and the rule; and what follows from them, which
     * every change works out anew. The caller has looked at each place's number before.
     */
    private static final class Land {
        private int count;
        private int rule;
        private final int[] ways;
        private final int[] stepsToSea;
        private final boolean[] sprung;
        private final int[] springNames;
        private final int[] springWater;
        private final int[] swells;
        private final boolean[] deltas;

        private final int[] water;
        private final int[] lengths;
        private final int[] names;
        private final int[] arguers;
        private final boolean[] disputed;
        private final int[] winners;
        private final int[] strengths;

        Land() {
            count = 0;
            rule = BY_WATER;
            ways = new int[MOST_PLACES];
            stepsToSea = new int[MOST_PLACES];
            sprung = new boolean[MOST_PLACES];
            springNames = new int[MOST_PLACES];
            springWater = new int[MOST_PLACES];
            swells = new int[MOST_PLACES];
            deltas = new boolean[MOST_PLACES];
            water = new int[MOST_PLACES];
            lengths = new int[MOST_PLACES];
            names = new int[MOST_PLACES];
            arguers = new int[MOST_PLACES];
            disputed = new boolean[MOST_PLACES];
            winners = new int[MOST_PLACES];
            strengths = new int[MOST_PLACES];
        }

        int size() {
            return count;
        }

        int ruleNow() {
            return rule;
        }

        boolean isPlace(int place) {
            return place >= 0 && place < count;
        }

        int next(int place) {
            return ways[place];
        }

        boolean isSprung(int place) {
            return sprung[place];
        }

        int springWaterOf(int place) {
            return springWater[place];
        }

        boolean isDelta(int place) {
            return deltas[place];
        }

        int waterOf(int place) {
            return water[place];
        }

        int lengthOf(int place) {
            return lengths[place];
        }

        int nameOf(int place) {
            return names[place];
        }

        int arguersAt(int place) {
            return arguers[place];
        }

        boolean isDisputed(int place) {
            return disputed[place];
        }

        int addBare() {
            int place = count;
            count++;
            ways[place] = NONE;
            settle();
            return place;
        }

        int addSprung(int name, int startWater, int swell) {
            int place = count;
            count++;
            ways[place] = NONE;
            sprung[place] = true;
            springNames[place] = name;
            springWater[place] = startWater;
            swells[place] = swell;
            settle();
            return place;
        }

        void leadOn(int place, int to) {
            ways[place] = to;
            for (int other = 0; other < count; other++) {
                stepsToSea[other] = countSteps(other);
            }
            settle();
        }

        void toggleDelta(int place) {
            deltas[place] = !deltas[place];
            settle();
        }

        void useRule(int newRule) {
            rule = newRule;
            settle();
        }

        void dryUp(int place) {
            springWater[place] = 0;
            settle();
        }

        void swellFor(int years) {
            for (int place = 0; place < count; place++) {
                // A swell never turns, so to hold at the end is to hold in every year.
                int swollen = springWater[place] + years * swells[place];
                springWater[place] = Math.max(0, Math.min(MOST_WATER, swollen));
            }
            settle();
        }

        /** Becomes like the other land; what follows from it stands with the next change. */
        void takeOver(Land other) {
            count = other.count;
            rule = other.rule;
            for (int place = 0; place < count; place++) {
                ways[place] = other.ways[place];
                stepsToSea[place] = other.stepsToSea[place];
                sprung[place] = other.sprung[place];
                springNames[place] = other.springNames[place];
                springWater[place] = other.springWater[place];
                swells[place] = other.swells[place];
                deltas[place] = other.deltas[place];
            }
        }

        int countNamed(int name) {
            int named = 0;
            for (int place = 0; place < count; place++) {
                if (names[place] == name) {
                    named++;
                }
            }
            return named;
        }

        int countNamedOtherThan(Land other) {
            int renamed = 0;
            for (int place = 0; place < count; place++) {
                if (names[place] != other.names[place]) {
                    renamed++;
                }
            }
            return renamed;
        }

        boolean flowsTo(int place, int other) {
            int at = ways[place];
            for (int step = 0; step < MOST_PLACES && isPlace(at); step++) {
                if (at == other) {
                    return true;
                }
                at = ways[at];
            }
            return false;
        }

        int lastOnWay(int place) {
            int at = place;
            for (int step = 0; step < MOST_PLACES && isPlace(ways[at]); step++) {
                at = ways[at];
            }
            return at;
        }

        int firstCommon(int a, int b) {
            int at = a;
            for (int step = 0; step < MOST_PLACES && isPlace(at); step++) {
                if (at == b || flowsTo(b, at)) {
                    return at;
                }
                at = ways[at];
            }
            return NONE;
        }

        private int countSteps(int place) {
            int at = ways[place];
            int steps = 0;
            while (steps < MOST_PLACES && isPlace(at)) {
                steps++;
                at = ways[at];
            }
            return steps;
        }

        private void settle() {
            for (int place = 0; place < count; place++) {
                rise(place);
            }
            // Who leads on is one step farther from the sea than where it leads to: going from far
            // to near, a place has heard all who lead to it before it flows on itself.
            for (int steps = count - 1; steps >= 0; steps--) {
                for (int place = 0; place < count; place++) {
                    if (stepsToSea[place] == steps) {
                        flowOn(place, ways[place]);
                    }
                }
            }
        }

        private void rise(int place) {
            boolean isWet = springWater[place] > 0;
            water[place] = springWater[place];
            lengths[place] = isWet ? 1 : 0;
            names[place] = NONE;
            arguers[place] = 0;
            disputed[place] = false;
            winners[place] = NONE;
            strengths[place] = 0;
            if (isWet) {
                int strength = rule == BY_WATER ? springWater[place] : 0;
                argue(place, place, springNames[place], strength);
            }
        }

        private void flowOn(int place, int to) {
            if (!isPlace(to)) {
                return;
            }
            water[to] += water[place];
            if (lengths[place] > 0) {
                lengths[to] = Math.max(lengths[to], lengths[place] + 1);
            }
            if (names[place] != NONE) {
                int strength = rule == BY_WATER ? water[place] : lengths[place];
                argue(to, place, names[place], strength);
            }
        }

        private void argue(int place, int who, int name, int strength) {
            if (deltas[place]) {
                return;
            }
            if (arguers[place] > 0 && name != names[place]) {
                disputed[place] = true;
            }
            arguers[place]++;
            boolean wins = winners[place] == NONE
                    || strength > strengths[place]
                    || strength == strengths[place] && who < winners[place];
            if (wins) {
                winners[place] = who;
                strengths[place] = strength;
                names[place] = name;
            }
        }
    }
}
