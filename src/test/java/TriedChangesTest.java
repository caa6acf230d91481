import java.util.ArrayList;
import java.util.List;
import java.util.function.Consumer;

/**
 * Promise 21 by its own words: each set of new tags is made on an object of its own, the smallest
 * sets first, until frames come from the one switch to the other over cables that are on and
 * through which they stay in the lane. What such a cable is, isOn and comesAs tell.
 */
public final class TriedChangesTest {
    private static final int NONE = LaneTrunks.NONE;
    private static final int RUNS = 300;
    private static final int LANE = 4;

    private final Checks checks = new Checks("TriedChangesTest");
    private long state;

    /** A cable from a port of one switch to a port of another one. */
    private record Cable(int unit, int port, int otherUnit, int otherPort, int cost) {
    }

    private record Port(int unit, int port) {
    }

    public static void main(String[] args) {
        TriedChangesTest test = new TriedChangesTest();
        for (int run = 1; run <= RUNS; run++) {
            test.run(run);
        }
        test.checks.close();
    }

    private int below(int bound) {
        state = state * 6364136223846793005L + 1442695040888963407L;
        return (int) ((state >>> 33) % bound);
    }

    private void run(int number) {
        state = number;
        List<Cable> cables = cables(3 + number % 3);
        List<Port> ends = new ArrayList<>();
        for (Cable cable : cables) {
            ends.add(new Port(cable.unit, cable.port));
            ends.add(new Port(cable.otherUnit, cable.otherPort));
        }
        Consumer<LaneTrunks> settings = settings(cables, ends, number % 4 == 0);
        for (int other = 1; other < 4; other++) {
            int unit = other;
            checks.due("run " + number + ": changes(0, 5, " + unit + ", 5)",
                    fewest(settings, ends, unit),
                    () -> Checks.made(settings).changes(0, 5, unit, 5));
        }
    }

    // Among four switches, so that there are rings; port 5 is left to the two ports that meet.
    private List<Cable> cables(int count) {
        List<Cable> cables = new ArrayList<>();
        int[] used = new int[4];
        for (int i = 0; i < count; i++) {
            int unit = below(4);
            int other = (unit + 1 + below(3)) % 4;
            cables.add(new Cable(unit, used[unit]++, other, used[other]++, 1 + below(3)));
        }
        return cables;
    }

    private Consumer<LaneTrunks> settings(List<Cable> cables, List<Port> ends, boolean isTreeOn) {
        List<Integer> kinds = new ArrayList<>();
        for (int i = 0; i < ends.size(); i++) {
            kinds.add(below(8));
        }
        return x -> {
            for (Cable c : cables) {
                x.cable(c.unit, c.port, c.otherUnit, c.otherPort, c.cost);
            }
            for (int i = 0; i < ends.size(); i++) {
                setPort(x, ends.get(i), kinds.get(i));
            }
            for (int unit = 0; unit < 4; unit++) {
                x.untag(unit, 5, LANE);
            }
            x.tree(isTreeOn);
        };
    }

    private static void setPort(LaneTrunks x, Port p, int kind) {
        switch (kind) {
            case 0, 1 -> x.untag(p.unit, p.port, LANE);
            case 2 -> x.untag(p.unit, p.port, LANE + 1);
            case 3, 4 -> x.tag(p.unit, p.port, LANE, true);
            case 5 -> x.tag(p.unit, p.port, LANE + 1, true);
            default -> { }
        }
    }

    private static int fewest(Consumer<LaneTrunks> settings, List<Port> ends, int goal) {
        for (int count = 0; count <= ends.size(); count++) {
            for (int chosen = 0; chosen < 1 << ends.size(); chosen++) {
                if (Integer.bitCount(chosen) == count && isEnough(settings, ends, chosen, goal)) {
                    return count;
                }
            }
        }
        return NONE;
    }

    private static boolean isEnough(Consumer<LaneTrunks> settings, List<Port> ends, int chosen,
            int goal) {
        LaneTrunks x = Checks.made(settings);
        for (int i = 0; i < ends.size(); i++) {
            if ((chosen >> i & 1) == 1 && !isNewTag(x, ends.get(i))) {
                return false;
            }
        }
        boolean[] reached = new boolean[6];
        reached[0] = true;
        for (int round = 0; round < 6; round++) {
            for (Port p : ends) {
                if (reached[p.unit] && x.isOn(p.unit, p.port)
                        && x.comesAs(p.unit, p.port, LANE) == LANE) {
                    reached[x.far(p.unit, p.port) / 10] = true;
                }
            }
        }
        return reached[goal];
    }

    // A change is refused where the lane is the untagged one, and is none where it is tagged.
    private static boolean isNewTag(LaneTrunks x, Port p) {
        return Checks.answerOf(() -> x.tag(p.unit, p.port, LANE, true)).equals("false");
    }
}
