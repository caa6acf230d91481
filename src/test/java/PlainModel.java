import java.util.ArrayList;
import java.util.HashMap;
import java.util.HashSet;
import java.util.List;
import java.util.Map;
import java.util.NoSuchElementException;
import java.util.Set;
import java.util.TreeSet;

/**
 * The document once more, in the plainest form and by other ways than the class goes: it walks
 * all simple ways where the class relaxes sums, and keeps sets where the class keeps rows.
 */
final class PlainModel {
    private static final int NONE = -1;

    private static final class Port {
        final int unit;
        final int number;
        int untagged;
        final Set<Integer> tagged = new TreeSet<>();
        Port far;
        int cost;
        int bookUnit = NONE;
        int bookPort = NONE;

        Port(int unit, int number) {
            this.unit = unit;
            this.number = number;
        }
    }

    private record Place(int unit, int lane) {
    }

    private final Port[][] ports = new Port[6][6];
    private boolean treeOn;
    // What follows from the cables, found anew after each change of them.
    private int[] waysUp;

    PlainModel() {
        for (int unit = 0; unit < 6; unit++) {
            for (int port = 0; port < 6; port++) {
                ports[unit][port] = new Port(unit, port);
            }
        }
    }

    /** For the choice of calls: whether the port has an untagged lane; no call of the face. */
    boolean hasUntagged(int unit, int port) {
        return ports[unit][port].untagged != 0;
    }

    private static void need(int value, int low, int high) {
        if (value < low || value > high) {
            throw new IllegalArgumentException();
        }
    }

    private Port port(int unit, int port) {
        need(unit, 0, 5);
        need(port, 0, 5);
        return ports[unit][port];
    }

    private Port cabled(int unit, int port) {
        Port p = port(unit, port);
        if (p.far == null) {
            throw new NoSuchElementException();
        }
        return p;
    }

    int untag(int unit, int port, int lane) {
        Port p = port(unit, port);
        need(lane, 0, 15);
        if (p.tagged.contains(lane)) {
            throw new IllegalStateException();
        }
        int before = p.untagged;
        p.untagged = lane;
        return before;
    }

    boolean tag(int unit, int port, int lane, boolean isTagged) {
        Port p = port(unit, port);
        need(lane, 1, 15);
        if (isTagged && p.untagged == lane) {
            throw new IllegalStateException();
        }
        return isTagged ? !p.tagged.add(lane) : p.tagged.remove(lane);
    }

    int cable(int unit, int port, int otherUnit, int otherPort, int cost) {
        Port p = port(unit, port);
        Port q = port(otherUnit, otherPort);
        need(cost, 1, 20);
        if (unit == otherUnit) {
            throw new IllegalArgumentException();
        }
        if (p.far != null || q.far != null) {
            throw new IllegalStateException();
        }
        p.far = q;
        q.far = p;
        p.cost = cost;
        q.cost = cost;
        waysUp = null;
        int ends = 0;
        for (Port any : all()) {
            ends += any.far != null ? 1 : 0;
        }
        return ends / 2;
    }

    int pull(int unit, int port) {
        Port p = cabled(unit, port);
        p.far.far = null;
        p.far = null;
        waysUp = null;
        return p.cost;
    }

    boolean tree(boolean isOn) {
        boolean before = treeOn;
        treeOn = isOn;
        return before;
    }

    boolean note(int unit, int port, int otherUnit, int otherPort) {
        Port p = port(unit, port);
        if (otherUnit != NONE) {
            port(otherUnit, otherPort);
        }
        boolean before = p.bookUnit != NONE;
        p.bookUnit = otherUnit;
        p.bookPort = otherPort;
        return before;
    }

    int far(int unit, int port) {
        Port q = port(unit, port).far;
        return q == null ? NONE : 10 * q.unit + q.number;
    }

    boolean isOn(int unit, int port) {
        return on(cabled(unit, port));
    }

    int comesAs(int unit, int port, int lane) {
        need(lane, 1, 15);
        return over(cabled(unit, port), lane);
    }

    int oneSided(int unit, int port) {
        Port p = cabled(unit, port);
        int count = 0;
        for (int lane = 1; lane <= 15; lane++) {
            count += p.tagged.contains(lane) != p.far.tagged.contains(lane) ? 1 : 0;
        }
        return count;
    }

    int wrong() {
        int count = 0;
        for (Port p : all()) {
            boolean right = p.bookUnit == NONE || p.far != null
                    && p.far.unit == p.bookUnit && p.far.number == p.bookPort;
            count += right ? 0 : 1;
        }
        return count;
    }

    int root(int unit) {
        need(unit, 0, 5);
        Set<Integer> together = new TreeSet<>(Set.of(unit));
        for (int round = 0; round < 6; round++) {
            for (Port p : all()) {
                if (p.far != null && together.contains(p.unit)) {
                    together.add(p.far.unit);
                }
            }
        }
        return together.stream().min(Integer::compare).orElseThrow();
    }

    int costOf(int unit) {
        return cheapest(unit, root(unit), new HashSet<>());
    }

    int wayUp(int unit) {
        if (root(unit) == unit) {
            return NONE;
        }
        int cost = costOf(unit);
        for (int farUnit = 0; farUnit < 6; farUnit++) {
            for (Port p : ports[unit]) {
                boolean leads = p.far != null && p.far.unit == farUnit;
                if (leads && p.cost + costOf(farUnit) == cost) {
                    return p.number;
                }
            }
        }
        throw new AssertionError("a switch without a way up");
    }

    int hops(int unit, int lane, int otherUnit, int otherLane) {
        need(unit, 0, 5);
        need(lane, 1, 15);
        need(otherUnit, 0, 5);
        need(otherLane, 1, 15);
        return from(new Place(unit, lane)).getOrDefault(new Place(otherUnit, otherLane), NONE);
    }

    boolean meet(int unit, int port, int otherUnit, int otherPort) {
        Port p = port(unit, port);
        Port q = port(otherUnit, otherPort);
        return p.untagged != 0 && q.untagged != 0
                && hops(unit, p.untagged, otherUnit, q.untagged) != NONE;
    }

    int joined(int unit, int lane) {
        need(unit, 0, 5);
        need(lane, 1, 15);
        return from(new Place(unit, lane)).size();
    }

    int islands() {
        Set<Set<Place>> islands = new HashSet<>();
        for (Place place : used()) {
            islands.add(from(place).keySet());
        }
        return islands.size();
    }

    int loops() {
        int directions = 0;
        for (Port p : all()) {
            for (int lane = 1; lane <= 15; lane++) {
                directions += p.far != null && on(p) && over(p, lane) != NONE ? 1 : 0;
            }
        }
        return directions / 2 - used().size() + islands();
    }

    int changes(int unit, int port, int otherUnit, int otherPort) {
        Port p = port(unit, port);
        Port q = port(otherUnit, otherPort);
        if (p.untagged == 0 || p.untagged != q.untagged) {
            return NONE;
        }
        return fewest(unit, otherUnit, p.untagged, new HashSet<>());
    }

    private List<Port> all() {
        List<Port> all = new ArrayList<>();
        for (Port[] row : ports) {
            all.addAll(List.of(row));
        }
        return all;
    }

    private boolean on(Port p) {
        if (waysUp == null) {
            waysUp = new int[6];
            for (int unit = 0; unit < 6; unit++) {
                waysUp[unit] = wayUp(unit);
            }
        }
        return !treeOn || waysUp[p.unit] == p.number || waysUp[p.far.unit] == p.far.number;
    }

    private static int over(Port p, int lane) {
        if (p.tagged.contains(lane)) {
            return p.far.tagged.contains(lane) ? lane : NONE;
        }
        return p.untagged == lane && p.far.untagged != 0 ? p.far.untagged : NONE;
    }

    private int cheapest(int unit, int goal, Set<Integer> passed) {
        if (unit == goal) {
            return 0;
        }
        int best = NONE;
        passed.add(unit);
        for (Port p : ports[unit]) {
            if (p.far != null && !passed.contains(p.far.unit)) {
                best = lower(best, cheapest(p.far.unit, goal, passed), p.cost);
            }
        }
        passed.remove(unit);
        return best;
    }

    private int fewest(int unit, int goal, int lane, Set<Integer> passed) {
        if (unit == goal) {
            return 0;
        }
        int best = NONE;
        passed.add(unit);
        for (Port p : ports[unit]) {
            if (p.far == null || passed.contains(p.far.unit) || !on(p)) {
                continue;
            }
            boolean bothUntagged = p.untagged == lane && p.far.untagged == lane;
            boolean neitherUntagged = p.untagged != lane && p.far.untagged != lane;
            if (bothUntagged || neitherUntagged) {
                int missing = bothUntagged ? 0 : missing(p, lane) + missing(p.far, lane);
                best = lower(best, fewest(p.far.unit, goal, lane, passed), missing);
            }
        }
        passed.remove(unit);
        return best;
    }

    private static int missing(Port p, int lane) {
        return p.tagged.contains(lane) ? 0 : 1;
    }

    private static int lower(int best, int rest, int more) {
        if (rest == NONE) {
            return best;
        }
        return best == NONE ? rest + more : Math.min(best, rest + more);
    }

    private Set<Place> used() {
        Set<Place> used = new HashSet<>();
        for (Port p : all()) {
            for (int lane = 1; lane <= 15; lane++) {
                if (p.untagged == lane || p.tagged.contains(lane)) {
                    used.add(new Place(p.unit, lane));
                }
            }
        }
        return used;
    }

    private Map<Place, Integer> from(Place start) {
        Map<Place, Integer> hops = new HashMap<>(Map.of(start, 0));
        List<Place> last = List.of(start);
        for (int count = 1; !last.isEmpty(); count++) {
            List<Place> next = new ArrayList<>();
            for (Place place : last) {
                for (Port p : ports[place.unit]) {
                    int lane = p.far != null && on(p) ? over(p, place.lane) : NONE;
                    if (lane != NONE && hops.putIfAbsent(new Place(p.far.unit, lane), count) == null) {
                        next.add(new Place(p.far.unit, lane));
                    }
                }
            }
            last = next;
        }
        return hops;
    }
}
