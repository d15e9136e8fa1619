import java.util.ArrayList;
import java.util.List;

/**
 * The document told once more, as near to its words as can be and without a thought for speed: each
 * answer is worked out afresh by recursion, years go by one at a time, and what would be is asked of
 * a copy. It has no exceptions; who asks it has to see to what is allowed.
 */
final class PlainRivers {
    static final class Place {
        int to = -1;
        boolean spring;
        int name;
        int water;
        int swell;
        boolean delta;
    }

    static final class Arguer {
        int number;
        int name;
        int water;
        int length;
    }

    final List<Place> all = new ArrayList<>();
    final List<int[]> built = new ArrayList<>();
    int rule = 0;
    int year = 0;

    PlainRivers copy() {
        PlainRivers other = new PlainRivers();
        for (Place p : all) {
            Place q = new Place();
            q.to = p.to;
            q.spring = p.spring;
            q.name = p.name;
            q.water = p.water;
            q.swell = p.swell;
            q.delta = p.delta;
            other.all.add(q);
        }
        for (int[] bridge : built) {
            other.built.add(bridge.clone());
        }
        other.rule = rule;
        other.year = year;
        return other;
    }

    void add(boolean spring, int name, int water, int swell) {
        Place p = new Place();
        p.spring = spring;
        p.name = name;
        p.water = water;
        p.swell = swell;
        all.add(p);
    }

    void goByYear() {
        for (Place p : all) {
            if (p.spring) {
                p.water = Math.min(99, Math.max(0, p.water + p.swell));
            }
        }
        year++;
    }

    boolean wet(int place) {
        return all.get(place).spring && all.get(place).water > 0;
    }

    List<Integer> directlyAbove(int place) {
        List<Integer> found = new ArrayList<>();
        for (int i = 0; i < all.size(); i++) {
            if (all.get(i).to == place) {
                found.add(i);
            }
        }
        return found;
    }

    int spring(int place) {
        return all.get(place).spring ? all.get(place).water : 0;
    }

    int water(int place) {
        int sum = spring(place);
        for (int i : directlyAbove(place)) {
            sum += water(i);
        }
        return sum;
    }

    int length(int place) {
        int greatest = 0;
        for (int i : directlyAbove(place)) {
            greatest = Math.max(greatest, length(i));
        }
        if (greatest > 0) {
            return greatest + 1;
        }
        return wet(place) ? 1 : 0;
    }

    List<Arguer> arguers(int place) {
        List<Arguer> found = new ArrayList<>();
        if (all.get(place).delta) {
            return found;
        }
        if (wet(place)) {
            Arguer own = new Arguer();
            own.number = place;
            own.name = all.get(place).name;
            own.water = all.get(place).water;
            own.length = 0;
            found.add(own);
        }
        for (int i : directlyAbove(place)) {
            if (name(i) >= 0) {
                Arguer river = new Arguer();
                river.number = i;
                river.name = name(i);
                river.water = water(i);
                river.length = length(i);
                found.add(river);
            }
        }
        return found;
    }

    int name(int place) {
        List<Arguer> found = arguers(place);
        if (found.isEmpty()) {
            return -1;
        }
        found.sort((a, b) -> {
            int byRule = rule == 0 ? b.water - a.water : b.length - a.length;
            return byRule != 0 ? byRule : a.number - b.number;
        });
        return found.get(0).name;
    }

    boolean argued(int place) {
        return arguers(place).stream().mapToInt(a -> a.name).distinct().count() > 1;
    }

    List<Integer> way(int place) {
        List<Integer> found = new ArrayList<>();
        for (int at = place; at >= 0; at = all.get(at).to) {
            found.add(at);
        }
        return found;
    }

    boolean above(int place, int other) {
        return place != other && way(place).contains(other);
    }

    int placesAbove(int place) {
        int found = 0;
        for (int i = 0; i < all.size(); i++) {
            found += above(i, place) ? 1 : 0;
        }
        return found;
    }

    int mouth(int place) {
        List<Integer> way = way(place);
        return way.get(way.size() - 1);
    }

    int meeting(int a, int b) {
        List<Integer> other = way(b);
        for (int at : way(a)) {
            if (other.contains(at)) {
                return at;
            }
        }
        return -1;
    }

    int[] namesNow() {
        int[] names = new int[all.size()];
        for (int i = 0; i < names.length; i++) {
            names[i] = name(i);
        }
        return names;
    }

    int named(int name) {
        int found = 0;
        for (int is : namesNow()) {
            found += is == name ? 1 : 0;
        }
        return found;
    }

    int greatestName() {
        int greatest = 0;
        for (int name = 1; name < 10; name++) {
            greatest = named(name) > named(greatest) ? name : greatest;
        }
        return named(greatest) == 0 ? -1 : greatest;
    }

    boolean insulted(int bridge) {
        int[] b = built.get(bridge);
        return b[1] != -1 && name(b[0]) != b[1];
    }

    int insultsAt(int place) {
        int found = 0;
        for (int i = 0; i < built.size(); i++) {
            boolean here = place == -1 || built.get(i)[0] == place;
            found += here && insulted(i) ? 1 : 0;
        }
        return found;
    }

    int nameIn(int place, int years) {
        PlainRivers then = copy();
        for (int i = 0; i < years; i++) {
            then.goByYear();
        }
        return then.name(place);
    }

    int yearsUntilRenamed(int place) {
        for (int years = 1; years <= 50; years++) {
            if (nameIn(place, years) != name(place)) {
                return years;
            }
        }
        return -1;
    }

    int renamed(PlainRivers other) {
        int[] now = namesNow();
        int[] then = other.namesNow();
        int found = 0;
        for (int i = 0; i < now.length; i++) {
            found += now[i] != then[i] ? 1 : 0;
        }
        return found;
    }

    int weightiestSpring() {
        int best = -1;
        int most = -1;
        for (int i = 0; i < all.size(); i++) {
            if (wet(i)) {
                PlainRivers other = copy();
                other.all.get(i).water = 0;
                int renamed = renamed(other);
                if (renamed > most) {
                    best = i;
                    most = renamed;
                }
            }
        }
        return best;
    }

    int renamedByDelta(int place) {
        PlainRivers other = copy();
        other.all.get(place).delta = !other.all.get(place).delta;
        return renamed(other);
    }

    int renamedByRule() {
        PlainRivers other = copy();
        other.rule = 1 - rule;
        return renamed(other);
    }

    double meanMouth() {
        List<Integer> mouths = directlyAbove(-1);
        double sum = 0;
        for (int mouth : mouths) {
            sum += water(mouth);
        }
        return mouths.isEmpty() ? 0 : sum / mouths.size();
    }

    long digest() {
        List<Long> x = new ArrayList<>();
        long[] head = {year, all.size(), built.size(), insultsAt(-1), greatestName(), named(-1),
            weightiestSpring(), renamedByRule()};
        for (long number : head) {
            x.add(number);
        }
        for (int i = 0; i < all.size(); i++) {
            long[] row = {all.get(i).to, all.get(i).spring ? 1 : 0, spring(i), water(i), length(i),
                mouth(i), placesAbove(i), name(i), arguers(i).size(), argued(i) ? 1 : 0};
            for (long number : row) {
                x.add(number);
            }
        }
        for (int i = 0; i < built.size(); i++) {
            x.add((long) built.get(i)[0]);
            x.add((long) built.get(i)[1]);
            x.add(insulted(i) ? 1L : 0L);
        }
        long d = 2027;
        for (long number : x) {
            d = d * 31 + number;
        }
        return d;
    }
}
