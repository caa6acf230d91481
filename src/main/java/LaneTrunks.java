import java.util.Arrays;
import java.util.NoSuchElementException;

/**
 * A checker of the settings of switches: ports carry lanes with tags or without, cables join
 * ports, a tree of paths can switch cables off; it finds where frames come, in which lane, over
 * how many cables, where lanes are let through on one end alone, which loops there are, and by
 * how few changes two ports would meet.
 *
 * <p>Inside, a port of a switch is one number, its slot (6 times the switch, and the port), and a
 * place is one number too (16 times the switch, and the lane). All rows are made once, with the
 * object: no call makes an array.
 */
public final class LaneTrunks {
    /** None. */
    public static final int NONE = -1;

    private static final int UNITS = 6;
    private static final int PORTS_OF_UNIT = 6;
    private static final int SLOTS = UNITS * PORTS_OF_UNIT;
    private static final int TOP_LANE = 15;
    // Lane 0 has a place that is never used, so that a place tells its lane without a shift by one.
    private static final int PLACES_OF_UNIT = TOP_LANE + 1;
    private static final int PLACES = UNITS * PLACES_OF_UNIT;
    private static final int TOP_COST = 20;
    // Stands above every sum of costs or changes: a shortest way has at most five cables.
    private static final int UNREACHED = 1000;

    // By slot: the untagged lane, or 0; the tagged lanes, lane n as bit n.
    private final int[] untaggedLane = new int[SLOTS];
    private final int[] taggedLanes = new int[SLOTS];
    // By slot: the slot at the far end of the cable, or NONE, and the cable's cost.
    private final int[] farSlot = new int[SLOTS];
    private final int[] cableCost = new int[SLOTS];
    // By slot: what far should answer there, or NONE if nothing is written.
    private final int[] book = new int[SLOTS];

    // By switch: what follows from the cables alone, kept until a cable is laid or pulled.
    private final int[] rootUnit = new int[UNITS];
    private final int[] rootCost = new int[UNITS];
    private final int[] wayUpSlot = new int[UNITS];

    // By place: over how many cables the last walk came there, or NONE.
    private final int[] steps = new int[PLACES];
    private final int[] reachedPlaces = new int[PLACES];
    private int reachedCount;

    // Room for leastSums, by slot and by switch: filled anew before each use.
    private final int[] weights = new int[SLOTS];
    private final int[] sums = new int[UNITS];

    private int cableCount;
    private boolean isTreeOn;

    /** Ports that carry nothing, no cables, an empty book, the tree off. */
    public LaneTrunks() {
        Arrays.fill(farSlot, NONE);
        Arrays.fill(book, NONE);
        growTree();
    }

    // ---- settings

    /** Sets the untagged lane of a port, 0 for none; returns the one before. */
    public int untag(int unit, int port, int lane)
            throws IllegalArgumentException, IllegalStateException {
        int slot = slotOf(unit, port);
        if (lane != 0) {
            checkLane(lane);
        }
        if (isTagged(slot, lane)) {
            throw new IllegalStateException("the lane is tagged at the port");
        }
        int before = at(untaggedLane, slot);
        put(untaggedLane, slot, lane);
        return before;
    }

    /** Makes a lane tagged at a port, or not any more; returns whether it was. */
    public boolean tag(int unit, int port, int lane, boolean isTagged)
            throws IllegalArgumentException, IllegalStateException {
        int slot = slotOf(unit, port);
        checkLane(lane);
        if (isTagged && at(untaggedLane, slot) == lane) {
            throw new IllegalStateException("the lane is the untagged one of the port");
        }
        boolean before = isTagged(slot, lane);
        int others = at(taggedLanes, slot) & ~(1 << lane);
        put(taggedLanes, slot, isTagged ? others | (1 << lane) : others);
        return before;
    }

    /** Lays a cable; returns how many cables there are then. */
    public int cable(int unit, int port, int otherUnit, int otherPort, int cost)
            throws IllegalArgumentException, IllegalStateException {
        int slot = slotOf(unit, port);
        int otherSlot = slotOf(otherUnit, otherPort);
        if (cost < 1 || cost > TOP_COST) {
            throw new IllegalArgumentException("a cost is 1 to 20");
        }
        if (unit == otherUnit) {
            throw new IllegalArgumentException("a cable joins two switches");
        }
        if (hasCable(slot) || hasCable(otherSlot)) {
            throw new IllegalStateException("there is a cable at one of the ports");
        }
        setCable(slot, otherSlot, cost);
        setCable(otherSlot, slot, cost);
        cableCount++;
        growTree();
        return cableCount;
    }

    /** Pulls the cable at a port; returns its cost. */
    public int pull(int unit, int port) throws IllegalArgumentException, NoSuchElementException {
        int slot = slotWithCable(unit, port);
        int cost = at(cableCost, slot);
        setCable(at(farSlot, slot), NONE, 0);
        setCable(slot, NONE, 0);
        cableCount--;
        growTree();
        return cost;
    }

    /** Switches the tree on or off; returns whether it was on. */
    public boolean tree(boolean isOn) {
        boolean before = isTreeOn;
        isTreeOn = isOn;
        return before;
    }

    /** Writes into the book what should be at the far end; returns whether anything was written. */
    public boolean note(int unit, int port, int otherUnit, int otherPort)
            throws IllegalArgumentException {
        int slot = slotOf(unit, port);
        int entry = otherUnit == NONE ? NONE : endName(slotOf(otherUnit, otherPort));
        boolean before = at(book, slot) != NONE;
        put(book, slot, entry);
        return before;
    }

    // ---- cables

    /** Returns 10 times the switch at the far end, and the port there; NONE without a cable. */
    public int far(int unit, int port) throws IllegalArgumentException {
        return endName(at(farSlot, slotOf(unit, port)));
    }

    /** Returns whether the cable at a port is on. */
    public boolean isOn(int unit, int port)
            throws IllegalArgumentException, NoSuchElementException {
        return hasLiveCable(slotWithCable(unit, port));
    }

    /** Returns in which lane a frame is at the far end of a cable, on or off, or NONE. */
    public int comesAs(int unit, int port, int lane)
            throws IllegalArgumentException, NoSuchElementException {
        checkLane(lane);
        return laneBeyond(slotWithCable(unit, port), lane);
    }

    /** Returns how many lanes are tagged at just one end of the cable at a port. */
    public int oneSided(int unit, int port)
            throws IllegalArgumentException, NoSuchElementException {
        int slot = slotWithCable(unit, port);
        return Integer.bitCount(at(taggedLanes, slot) ^ at(taggedLanes, at(farSlot, slot)));
    }

    /** Returns at how many ports the book differs from what is there, or there is no cable. */
    public int wrong() {
        int count = 0;
        for (int slot = 0; slot < SLOTS; slot++) {
            int entry = at(book, slot);
            if (entry != NONE && entry != endName(at(farSlot, slot))) {
                count++;
            }
        }
        return count;
    }

    // ---- the tree

    /** Returns the root of a switch, be the tree on or off. */
    public int root(int unit) throws IllegalArgumentException {
        checkUnit(unit);
        return at(rootUnit, unit);
    }

    /** Returns the cost of a switch, be the tree on or off. */
    public int costOf(int unit) throws IllegalArgumentException {
        checkUnit(unit);
        return at(rootCost, unit);
    }

    /** Returns the port of the way up of a switch, be the tree on or off; NONE for a root. */
    public int wayUp(int unit) throws IllegalArgumentException {
        checkUnit(unit);
        int slot = at(wayUpSlot, unit);
        return slot == NONE ? NONE : slot % PORTS_OF_UNIT;
    }

    // ---- where frames come

    /** Returns over how many cables, at least, a frame comes from a place to another, or NONE. */
    public int hops(int unit, int lane, int otherUnit, int otherLane)
            throws IllegalArgumentException {
        int from = placeOf(unit, lane);
        int to = placeOf(otherUnit, otherLane);
        forgetWalks();
        walkFrom(from);
        return at(steps, to);
    }

    /** Returns whether two ports have untagged lanes whose places are joined. */
    public boolean meet(int unit, int port, int otherUnit, int otherPort)
            throws IllegalArgumentException {
        int lane = at(untaggedLane, slotOf(unit, port));
        int otherLane = at(untaggedLane, slotOf(otherUnit, otherPort));
        return lane != 0 && otherLane != 0 && hops(unit, lane, otherUnit, otherLane) != NONE;
    }

    /** Returns how many places are joined to a place, itself included. */
    public int joined(int unit, int lane) throws IllegalArgumentException {
        int place = placeOf(unit, lane);
        forgetWalks();
        walkFrom(place);
        return reachedCount;
    }

    /** Returns how many islands there are. */
    public int islands() {
        int count = 0;
        forgetWalks();
        for (int unit = 0; unit < UNITS; unit++) {
            for (int lane = 1; lane <= TOP_LANE; lane++) {
                int place = unit * PLACES_OF_UNIT + lane;
                if (isUsed(unit, lane) && at(steps, place) == NONE) {
                    walkFrom(place);
                    count++;
                }
            }
        }
        return count;
    }

    /** Returns how many loops there are: ways, less the used places, and the islands added. */
    public int loops() {
        return countWays() - countUsedPlaces() + islands();
    }

    /** Returns the fewest changes by which two ports would meet in their lane, or NONE. */
    public int changes(int unit, int port, int otherUnit, int otherPort)
            throws IllegalArgumentException {
        int lane = at(untaggedLane, slotOf(unit, port));
        int otherLane = at(untaggedLane, slotOf(otherUnit, otherPort));
        if (lane == 0 || lane != otherLane) {
            return NONE;
        }
        for (int slot = 0; slot < SLOTS; slot++) {
            put(weights, slot, changesOver(slot, lane));
        }
        Arrays.fill(sums, UNREACHED);
        put(sums, unit, 0);
        leastSums(sums, weights);
        int least = at(sums, otherUnit);
        return least == UNREACHED ? NONE : least;
    }

    // ---- arguments

    private static void checkUnit(int unit) throws IllegalArgumentException {
        if (unit < 0 || unit >= UNITS) {
            throw new IllegalArgumentException("a switch is 0 to 5");
        }
    }

    private static void checkLane(int lane) throws IllegalArgumentException {
        if (lane < 1 || lane > TOP_LANE) {
            throw new IllegalArgumentException("a lane is 1 to 15");
        }
    }

    private static int slotOf(int unit, int port) throws IllegalArgumentException {
        checkUnit(unit);
        if (port < 0 || port >= PORTS_OF_UNIT) {
            throw new IllegalArgumentException("a port is 0 to 5");
        }
        return unit * PORTS_OF_UNIT + port;
    }

    private static int placeOf(int unit, int lane) throws IllegalArgumentException {
        checkUnit(unit);
        checkLane(lane);
        return unit * PLACES_OF_UNIT + lane;
    }

    private int slotWithCable(int unit, int port)
            throws IllegalArgumentException, NoSuchElementException {
        int slot = slotOf(unit, port);
        if (!hasCable(slot)) {
            throw new NoSuchElementException("there is no cable at the port");
        }
        return slot;
    }

    // ---- rows

    // Indices come out of rows too (a far slot, a reached place): looking at each one here keeps
    // the machine from throwing, whatever a row holds.
    private static int at(int[] row, int index) {
        return index >= 0 && index < row.length ? row[index] : NONE;
    }

    private static void put(int[] row, int index, int value) {
        if (index >= 0 && index < row.length) {
            row[index] = value;
        }
    }

    // ---- ports and cables

    private boolean isTagged(int slot, int lane) {
        return (at(taggedLanes, slot) & (1 << lane)) != 0;
    }

    private boolean hasCable(int slot) {
        return at(farSlot, slot) != NONE;
    }

    private void setCable(int slot, int end, int cost) {
        put(farSlot, slot, end);
        put(cableCost, slot, cost);
    }

    private static int endName(int slot) {
        return slot == NONE ? NONE : slot / PORTS_OF_UNIT * 10 + slot % PORTS_OF_UNIT;
    }

    private boolean hasLiveCable(int slot) {
        int end = at(farSlot, slot);
        if (end == NONE) {
            return false;
        }
        return !isTreeOn
                || at(wayUpSlot, slot / PORTS_OF_UNIT) == slot
                || at(wayUpSlot, end / PORTS_OF_UNIT) == end;
    }

    // For a port with a cable, be it on or off.
    private int laneBeyond(int slot, int lane) {
        int end = at(farSlot, slot);
        if (isTagged(slot, lane)) {
            return isTagged(end, lane) ? lane : NONE;
        }
        int landing = at(untaggedLane, end);
        return at(untaggedLane, slot) == lane && landing != 0 ? landing : NONE;
    }

    // ---- the tree

    private void growTree() {
        findRoots();
        findCosts();
        for (int unit = 0; unit < UNITS; unit++) {
            put(wayUpSlot, unit, bestWayUp(unit));
        }
    }

    // Sums over ways that weigh nothing leave the lowest number with which some switch began.
    private void findRoots() {
        for (int unit = 0; unit < UNITS; unit++) {
            put(rootUnit, unit, unit);
        }
        Arrays.fill(weights, 0);
        leastSums(rootUnit, weights);
    }

    private void findCosts() {
        for (int unit = 0; unit < UNITS; unit++) {
            put(rootCost, unit, at(rootUnit, unit) == unit ? 0 : UNREACHED);
        }
        leastSums(rootCost, cableCost);
    }

    // A root needs no test of its own: its cost is 0, and every cable costs more than that.
    private int bestWayUp(int unit) {
        int best = NONE;
        int bestUnit = UNITS;
        for (int port = 0; port < PORTS_OF_UNIT; port++) {
            int slot = unit * PORTS_OF_UNIT + port;
            int end = at(farSlot, slot);
            if (end == NONE) {
                continue;
            }
            int endUnit = end / PORTS_OF_UNIT;
            int cost = at(cableCost, slot) + at(rootCost, endUnit);
            if (cost == at(rootCost, unit) && endUnit < bestUnit) {
                best = slot;
                bestUnit = endUnit;
            }
        }
        return best;
    }

    // Lowers the sum of each switch to the least sum of another one and of the weights of the
    // cables from there; a shortest way has fewer cables than there are switches, and so rounds.
    private void leastSums(int[] unitSums, int[] slotWeights) {
        for (int round = 1; round < UNITS; round++) {
            for (int slot = 0; slot < SLOTS; slot++) {
                lowerSum(unitSums, slotWeights, slot);
            }
        }
    }

    private void lowerSum(int[] unitSums, int[] slotWeights, int slot) {
        int end = at(farSlot, slot);
        int weight = at(slotWeights, slot);
        if (end == NONE || weight == NONE) {
            return;
        }
        int sum = at(unitSums, slot / PORTS_OF_UNIT) + weight;
        if (sum < at(unitSums, end / PORTS_OF_UNIT)) {
            put(unitSums, end / PORTS_OF_UNIT, sum);
        }
    }

    // ---- where frames come

    private void forgetWalks() {
        Arrays.fill(steps, NONE);
        reachedCount = 0;
    }

    private void walkFrom(int start) {
        int first = reachedCount;
        reach(start, 0);
        for (int i = first; i < reachedCount && i < PLACES; i++) {
            reachNeighbours(at(reachedPlaces, i));
        }
    }

    private void reach(int place, int cables) {
        put(steps, place, cables);
        put(reachedPlaces, reachedCount, place);
        reachedCount++;
    }

    private void reachNeighbours(int place) {
        int unit = place / PLACES_OF_UNIT;
        for (int port = 0; port < PORTS_OF_UNIT; port++) {
            int next = placeBeyond(unit * PORTS_OF_UNIT + port, place % PLACES_OF_UNIT);
            if (next != NONE && at(steps, next) == NONE) {
                reach(next, at(steps, place) + 1);
            }
        }
    }

    private int placeBeyond(int slot, int lane) {
        int landing = hasLiveCable(slot) ? laneBeyond(slot, lane) : NONE;
        if (landing == NONE) {
            return NONE;
        }
        return at(farSlot, slot) / PORTS_OF_UNIT * PLACES_OF_UNIT + landing;
    }

    private boolean isUsed(int unit, int lane) {
        for (int port = 0; port < PORTS_OF_UNIT; port++) {
            int slot = unit * PORTS_OF_UNIT + port;
            if (isTagged(slot, lane) || at(untaggedLane, slot) == lane) {
                return true;
            }
        }
        return false;
    }

    private int countUsedPlaces() {
        int count = 0;
        for (int unit = 0; unit < UNITS; unit++) {
            for (int lane = 1; lane <= TOP_LANE; lane++) {
                if (isUsed(unit, lane)) {
                    count++;
                }
            }
        }
        return count;
    }

    private int countWays() {
        int count = 0;
        for (int slot = 0; slot < SLOTS; slot++) {
            // Both directions are one way: a cable counts at its lower slot alone.
            if (hasLiveCable(slot) && slot < at(farSlot, slot)) {
                count += waysOver(slot, at(farSlot, slot));
            }
        }
        return count;
    }

    private int waysOver(int slot, int end) {
        int tagged = Integer.bitCount(at(taggedLanes, slot) & at(taggedLanes, end));
        boolean isBare = at(untaggedLane, slot) != 0 && at(untaggedLane, end) != 0;
        return isBare ? tagged + 1 : tagged;
    }

    // How many tags a cable lacks for a lane; NONE if no tags let frames stay in the lane there:
    // an end at which the lane is untagged can't have it tagged, so the other end must match it.
    private int changesOver(int slot, int lane) {
        if (!hasLiveCable(slot)) {
            return NONE;
        }
        int end = at(farSlot, slot);
        boolean isBareHere = at(untaggedLane, slot) == lane;
        boolean isBareThere = at(untaggedLane, end) == lane;
        if (isBareHere || isBareThere) {
            return isBareHere && isBareThere ? 0 : NONE;
        }
        return (isTagged(slot, lane) ? 0 : 1) + (isTagged(end, lane) ? 0 : 1);
    }
}
