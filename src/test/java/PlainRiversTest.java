import java.util.function.LongSupplier;

/**
 * Long mixed runs of calls, right and wrong ones, each answer laid beside that of PlainRivers. The
 * calls are drawn by a fixed row of numbers, the same at each time.
 */
public final class PlainRiversTest {
    private static final Check CHECK = new Check("PlainRiversTest");
    private static final int RUNS = 400;
    private static final int CALLS = 512;
    private static final long INDEX = -1_000_001;
    private static final long ARGUMENT = -1_000_002;
    private static final long STATE = -1_000_003;
    private static final long OTHER = -1_000_004;

    private long drawn;
    private RiverNames x;
    private PlainRivers plain;
    /** How many places a run has about: few ones make long runs of calls on the same ones. */
    private int fewOrMany;

    private PlainRiversTest(long seed) {
        drawn = seed;
        x = new RiverNames();
        plain = new PlainRivers();
        fewOrMany = 2 + draw(16);
    }

    public static void main(String[] args) {
        for (int run = 0; run < RUNS; run++) {
            PlainRiversTest test = new PlainRiversTest(run * 7919L + 1);
            for (int call = 0; call < CALLS; call++) {
                test.step("run " + run + " call " + call + ": ");
            }
        }
        CHECK.end();
    }

    private int draw(int bound) {
        drawn = drawn * 6364136223846793005L + 1442695040888963407L;
        return (int) ((drawn >>> 33) % bound);
    }

    /** Mostly one that is there, at times one that is not. */
    private int drawOf(int count) {
        int[] far = {-1, count, count + 1, 16, -2, Integer.MIN_VALUE, Integer.MAX_VALUE};
        return count == 0 || draw(20) == 0 ? far[draw(far.length)] : draw(count);
    }

    private int drawBetween(int least, int most) {
        int[] far = {least - 1, most + 1, Integer.MIN_VALUE, Integer.MAX_VALUE};
        int[] edges = {least, most};
        int kind = draw(24);
        if (kind == 0) {
            return far[draw(far.length)];
        }
        return kind < 4 ? edges[draw(2)] : least + draw(most - least + 1);
    }

    private static long answer(LongSupplier call) {
        try {
            return call.getAsLong();
        } catch (RuntimeException e) {
            if (e.getClass() == IndexOutOfBoundsException.class) {
                return INDEX;
            }
            if (e.getClass() == IllegalArgumentException.class) {
                return ARGUMENT;
            }
            return e.getClass() == IllegalStateException.class ? STATE : OTHER;
        }
    }

    private boolean noPlace(int place) {
        return place < 0 || place >= plain.all.size();
    }

    private boolean noBridge(int bridge) {
        return bridge < 0 || bridge >= plain.built.size();
    }

    private void step(String where) {
        boolean growing = plain.all.size() < fewOrMany;
        int kind = draw(growing ? 60 : 48);
        if (kind >= 48) {
            stepAdd(where, draw(3) > 0);
        } else if (kind < 20) {
            stepChange(where, kind);
        } else {
            stepAsk(where, kind - 20);
        }
    }

    private void stepAdd(String where, boolean spring) {
        boolean full = plain.all.size() >= 16;
        if (!spring) {
            CHECK.due(where + "addPlace", answer(() -> x.addPlace()),
                    full ? STATE : plain.all.size());
            if (!full) {
                plain.add(false, 0, 0, 0);
            }
            return;
        }
        int name = drawBetween(0, draw(2) == 0 ? 9 : 2);
        int water = drawBetween(0, draw(2) == 0 ? 99 : 9);
        int swell = drawBetween(-9, 9);
        long due = plain.all.size();
        if (name < 0 || name > 9) {
            due = INDEX;
        } else if (water < 0 || water > 99 || swell < -9 || swell > 9) {
            due = ARGUMENT;
        } else if (full) {
            due = STATE;
        } else {
            plain.add(true, name, water, swell);
        }
        CHECK.due(where + "addSpring", answer(() -> x.addSpring(name, water, swell)), due);
    }

    private void stepChange(String where, int kind) {
        if (kind < 9) {
            stepLead(where, drawOf(plain.all.size()), drawOf(plain.all.size()));
        } else if (kind < 12) {
            stepDelta(where, drawOf(plain.all.size()));
        } else if (kind < 14) {
            stepRule(where, drawBetween(0, 1));
        } else if (kind < 16) {
            stepBuild(where, drawOf(plain.all.size()));
        } else if (kind < 19) {
            stepPass(where, drawBetween(1, draw(4) == 0 ? 50 : 4));
        } else if (draw(6) == 0) {
            stepAdd(where, draw(2) == 0);
        }
    }

    private void stepLead(String where, int place, int to) {
        long due;
        if (noPlace(place) || noPlace(to)) {
            due = INDEX;
        } else if (place == to || plain.above(to, place)) {
            due = STATE;
        } else {
            due = plain.all.get(place).to;
            plain.all.get(place).to = to;
        }
        CHECK.due(where + "lead", answer(() -> x.lead(place, to)), due);
    }

    private void stepDelta(String where, int place) {
        long due = INDEX;
        if (!noPlace(place)) {
            plain.all.get(place).delta = !plain.all.get(place).delta;
            due = plain.all.get(place).delta ? 1 : 0;
        }
        CHECK.due(where + "turnDelta", answer(() -> x.turnDelta(place) ? 1 : 0), due);
    }

    private void stepRule(String where, int rule) {
        long due = ARGUMENT;
        if (rule == 0 || rule == 1) {
            due = plain.rule;
            plain.rule = rule;
        }
        CHECK.due(where + "setRule", answer(() -> x.setRule(rule)), due);
    }

    private void stepBuild(String where, int place) {
        long due = plain.built.size();
        if (noPlace(place)) {
            due = INDEX;
        } else if (plain.built.size() >= 16) {
            due = STATE;
        } else {
            plain.built.add(new int[] {place, plain.name(place)});
        }
        CHECK.due(where + "build", answer(() -> x.build(place)), due);
    }

    private void stepPass(String where, int years) {
        long due = ARGUMENT;
        if (years >= 1 && years <= 50) {
            for (int i = 0; i < years; i++) {
                plain.goByYear();
            }
            due = plain.insultsAt(-1);
        }
        CHECK.due(where + "pass", answer(() -> x.pass(years)), due);
    }

    private void stepAsk(String where, int kind) {
        int place = drawOf(plain.all.size());
        if (kind < 12) {
            askOfPlace(where, kind, place);
        } else if (kind < 16) {
            askOfTwo(where, kind, place, drawOf(plain.all.size()));
        } else if (kind < 19) {
            askOfBridge(where, kind, drawOf(plain.built.size()));
        } else if (kind < 21) {
            askOfFuture(where, kind, place);
        } else {
            askOfAll(where, kind);
        }
    }

    private void askOfPlace(String where, int kind, int place) {
        boolean no = noPlace(place);
        switch (kind) {
            case 0 -> CHECK.due(where + "leadsTo", answer(() -> x.leadsTo(place)),
                    no ? INDEX : plain.all.get(place).to);
            case 1 -> CHECK.due(where + "hasSpring", answer(() -> x.hasSpring(place) ? 1 : 0),
                    no ? INDEX : plain.all.get(place).spring ? 1 : 0);
            case 2 -> CHECK.due(where + "springOf", answer(() -> x.springOf(place)),
                    no ? INDEX : plain.spring(place));
            case 3 -> CHECK.due(where + "waterAt", answer(() -> x.waterAt(place)),
                    no ? INDEX : plain.water(place));
            case 4 -> CHECK.due(where + "lengthAt", answer(() -> x.lengthAt(place)),
                    no ? INDEX : plain.length(place));
            case 5 -> CHECK.due(where + "mouthOf", answer(() -> x.mouthOf(place)),
                    no ? INDEX : plain.mouth(place));
            case 6 -> CHECK.due(where + "placesAbove", answer(() -> x.placesAbove(place)),
                    no ? INDEX : plain.placesAbove(place));
            case 7 -> CHECK.due(where + "nameAt", answer(() -> x.nameAt(place)),
                    no ? INDEX : plain.name(place));
            case 8 -> CHECK.due(where + "arguing", answer(() -> x.arguing(place)),
                    no ? INDEX : plain.arguers(place).size());
            case 9 -> CHECK.due(where + "isArgued", answer(() -> x.isArgued(place) ? 1 : 0),
                    no ? INDEX : plain.argued(place) ? 1 : 0);
            case 10 -> CHECK.due(where + "insultsAt", answer(() -> x.insultsAt(place)),
                    no ? INDEX : plain.insultsAt(place));
            default -> CHECK.due(where + "renamedByDelta", answer(() -> x.renamedByDelta(place)),
                    no ? INDEX : plain.renamedByDelta(place));
        }
    }

    private void askOfTwo(String where, int kind, int place, int other) {
        boolean no = noPlace(place) || noPlace(other);
        if (kind < 14) {
            CHECK.due(where + "isAbove", answer(() -> x.isAbove(place, other) ? 1 : 0),
                    no ? INDEX : plain.above(place, other) ? 1 : 0);
        } else {
            CHECK.due(where + "meeting", answer(() -> x.meeting(place, other)),
                    no ? INDEX : plain.meeting(place, other));
        }
    }

    private void askOfBridge(String where, int kind, int bridge) {
        boolean no = noBridge(bridge);
        switch (kind) {
            case 16 -> CHECK.due(where + "placeOf", answer(() -> x.placeOf(bridge)),
                    no ? INDEX : plain.built.get(bridge)[0]);
            case 17 -> CHECK.due(where + "keeps", answer(() -> x.keeps(bridge)),
                    no ? INDEX : plain.built.get(bridge)[1]);
            default -> CHECK.due(where + "isInsulted", answer(() -> x.isInsulted(bridge) ? 1 : 0),
                    no ? INDEX : plain.insulted(bridge) ? 1 : 0);
        }
    }

    private void askOfFuture(String where, int kind, int place) {
        if (kind == 19) {
            int years = drawBetween(1, 50);
            long due = noPlace(place) ? INDEX : ARGUMENT;
            if (!noPlace(place) && years >= 1 && years <= 50) {
                due = plain.nameIn(place, years);
            }
            CHECK.due(where + "nameIn", answer(() -> x.nameIn(place, years)), due);
        } else {
            CHECK.due(where + "yearsUntilRenamed", answer(() -> x.yearsUntilRenamed(place)),
                    noPlace(place) ? INDEX : plain.yearsUntilRenamed(place));
        }
    }

    private void askOfAll(String where, int kind) {
        switch (kind) {
            case 21 -> {
                int name = drawBetween(0, 9);
                CHECK.due(where + "placesNamed", answer(() -> x.placesNamed(name)),
                        name < 0 || name > 9 ? INDEX : plain.named(name));
            }
            case 22 -> CHECK.due(where + "greatestName", x.greatestName(), plain.greatestName());
            case 23 -> askOfCounts(where, draw(5));
            case 24 -> CHECK.due(where + "weightiestSpring", x.weightiestSpring(),
                    plain.weightiestSpring());
            case 25 -> CHECK.due(where + "renamedByRule", x.renamedByRule(),
                    plain.renamedByRule());
            case 26 -> CHECK.dueDouble(where + "meanMouth", x.meanMouth(), plain.meanMouth());
            default -> CHECK.due(where + "digest", x.digest(), plain.digest());
        }
    }

    private void askOfCounts(String where, int kind) {
        switch (kind) {
            case 0 -> CHECK.due(where + "nameless", x.nameless(), plain.named(-1));
            case 1 -> CHECK.due(where + "insults", x.insults(), plain.insultsAt(-1));
            case 2 -> CHECK.due(where + "bridges", x.bridges(), plain.built.size());
            case 3 -> CHECK.due(where + "places", x.places(), plain.all.size());
            default -> CHECK.due(where + "year", x.year(), plain.year);
        }
    }
}
