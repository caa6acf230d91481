import java.util.ArrayList;
import java.util.List;
import java.util.Map;
import java.util.TreeSet;
import java.util.function.Consumer;

/**
 * The ranges of all arguments of promises 2 to 21: the least and the greatest value of each one
 * is taken; the ones just outside, and those far outside that a careless shift or sum would take
 * for values inside, are refused, before any other exception, and change nothing.
 */
public final class ArgumentsTest {
    private static final int NONE = LaneTrunks.NONE;

    private static final Range UNIT = new Range(0, 5, false);
    private static final Range UNIT_OR_NONE = new Range(0, 5, true);
    private static final Range PORT = new Range(0, 5, false);
    private static final Range LANE = new Range(1, 15, false);
    private static final Range LANE_OR_0 = new Range(0, 15, false);
    private static final Range COST = new Range(1, 20, false);

    private static final List<Method> METHODS = List.of(
            new Method("untag", (x, a) -> x.untag(a[0], a[1], a[2]), UNIT, PORT, LANE_OR_0),
            new Method("tag, true", (x, a) -> x.tag(a[0], a[1], a[2], true), UNIT, PORT, LANE),
            new Method("tag, false", (x, a) -> x.tag(a[0], a[1], a[2], false), UNIT, PORT, LANE),
            new Method("cable", (x, a) -> x.cable(a[0], a[1], a[2], a[3], a[4]),
                    UNIT, PORT, UNIT, PORT, COST),
            new Method("pull", (x, a) -> x.pull(a[0], a[1]), UNIT, PORT),
            new Method("note", (x, a) -> x.note(a[0], a[1], a[2], a[3]),
                    UNIT, PORT, UNIT_OR_NONE, PORT),
            new Method("far", (x, a) -> x.far(a[0], a[1]), UNIT, PORT),
            new Method("isOn", (x, a) -> x.isOn(a[0], a[1]), UNIT, PORT),
            new Method("comesAs", (x, a) -> x.comesAs(a[0], a[1], a[2]), UNIT, PORT, LANE),
            new Method("oneSided", (x, a) -> x.oneSided(a[0], a[1]), UNIT, PORT),
            new Method("root", (x, a) -> x.root(a[0]), UNIT),
            new Method("costOf", (x, a) -> x.costOf(a[0]), UNIT),
            new Method("wayUp", (x, a) -> x.wayUp(a[0]), UNIT),
            new Method("hops", (x, a) -> x.hops(a[0], a[1], a[2], a[3]), UNIT, LANE, UNIT, LANE),
            new Method("meet", (x, a) -> x.meet(a[0], a[1], a[2], a[3]), UNIT, PORT, UNIT, PORT),
            new Method("joined", (x, a) -> x.joined(a[0], a[1]), UNIT, LANE),
            new Method("changes", (x, a) -> x.changes(a[0], a[1], a[2], a[3]),
                    UNIT, PORT, UNIT, PORT));

    // On an empty object each cable is missing, on a full one no port is free: so there another
    // exception would apply as well, wherever a call has another one.
    private static final Map<String, Consumer<LaneTrunks>> STATES = Map.of(
            "empty", x -> { },
            "some", SettingsTest::someSettings,
            "full", ArgumentsTest::fullSettings);

    private final Checks checks = new Checks("ArgumentsTest");

    private interface Body {
        Object answer(LaneTrunks x, int[] arguments);
    }

    private record Method(String name, Body body, Range... ranges) {
        int[] all(boolean isGreatest) {
            int[] arguments = new int[ranges.length];
            for (int i = 0; i < ranges.length; i++) {
                arguments[i] = isGreatest ? ranges[i].greatest : ranges[i].least;
            }
            return arguments;
        }

        String with(int[] arguments) {
            return name + java.util.Arrays.toString(arguments);
        }
    }

    private record Range(int least, int greatest, boolean orNone) {
        // Steps by which a shift, a mask, a row of ports or a row of places would come round.
        private static final int[] TURNS =
                {6, 10, 15, 16, 20, 32, 36, 64, 90, 96, 256, 65536, Integer.MIN_VALUE};

        List<Integer> outside() {
            TreeSet<Integer> values = new TreeSet<>(List.of(
                    least - 1, least - 2, greatest + 1, greatest + 2,
                    Integer.MIN_VALUE, Integer.MAX_VALUE));
            for (int turn : TURNS) {
                values.addAll(List.of(
                        least + turn, least - turn, greatest + turn, greatest - turn));
            }
            values.removeIf(value -> value >= least && value <= greatest);
            values.removeIf(value -> orNone && value == NONE);
            return new ArrayList<>(values);
        }
    }

    public static void main(String[] args) {
        ArgumentsTest test = new ArgumentsTest();
        for (Method method : METHODS) {
            test.edgesAreTaken(method);
            test.oneOutsideIsRefused(method);
            test.allOutsideAreRefused(method);
        }
        test.noneIsASwitchInTheBookAlone();
        test.theOtherPortDoesNotMatterWithNone();
        test.sameSwitchIsRefused();
        test.checks.close();
    }

    /** A cable at every port, an untagged lane at every port, and the whole book written. */
    private static void fullSettings(LaneTrunks x) {
        for (int unit = 0; unit < 6; unit += 2) {
            for (int port = 0; port < 6; port++) {
                x.cable(unit, port, unit + 1, 5 - port, 20 - port);
            }
        }
        for (int unit = 0; unit < 6; unit++) {
            for (int port = 0; port < 6; port++) {
                x.untag(unit, port, 15 - port);
                x.tag(unit, port, 1 + port, true);
                x.note(unit, port, 5 - unit, port);
            }
        }
        x.tree(true);
    }

    private static boolean isSameSwitch(Method method, int[] a) {
        return method.name.equals("cable") && a[0] == a[2];
    }

    private void edgesAreTaken(Method method) {
        int choices = 1 << method.ranges.length;
        for (int choice = 0; choice < choices; choice++) {
            int[] a = method.all(false);
            for (int i = 0; i < a.length; i++) {
                a[i] = (choice >> i & 1) == 0 ? a[i] : method.ranges[i].greatest;
            }
            for (String state : STATES.keySet()) {
                LaneTrunks x = Checks.made(STATES.get(state));
                String answer = Checks.answerOf(() -> method.body.answer(x, a));
                checks.due(method.with(a) + ", " + state + ": refused", isSameSwitch(method, a),
                        () -> answer.equals(Checks.ILLEGAL_ARGUMENT));
            }
        }
    }

    private void oneOutsideIsRefused(Method method) {
        for (int i = 0; i < method.ranges.length; i++) {
            for (int value : method.ranges[i].outside()) {
                for (boolean isGreatest : new boolean[] {false, true}) {
                    int[] a = method.all(isGreatest);
                    setApart(method, a);
                    a[i] = value;
                    refusedInAllStates(method, a);
                }
            }
        }
    }

    // So that a cable is not refused for its two switches being one.
    private static void setApart(Method method, int[] a) {
        if (isSameSwitch(method, a)) {
            a[2] = 5 - a[0];
        }
    }

    private void allOutsideAreRefused(Method method) {
        for (int step : new int[] {-2, 2}) {
            int[] a = method.all(step > 0);
            for (int i = 0; i < a.length; i++) {
                a[i] += step;
            }
            refusedInAllStates(method, a);
        }
    }

    private void refusedInAllStates(Method method, int[] a) {
        for (String state : STATES.keySet()) {
            checks.refused(method.with(a) + ", " + state, Checks.ILLEGAL_ARGUMENT,
                    STATES.get(state), x -> method.body.answer(x, a));
        }
    }

    private void noneIsASwitchInTheBookAlone() {
        LaneTrunks x = new LaneTrunks();
        checks.due("note with NONE", false, () -> x.note(0, 0, NONE, 0));
        checks.due("note with NONE below the port", false, () -> x.note(5, 5, NONE, 5));
        checks.due("note at NONE", Checks.ILLEGAL_ARGUMENT, () -> x.note(NONE, 0, NONE, 0));
        checks.due("note at port NONE", Checks.ILLEGAL_ARGUMENT, () -> x.note(0, NONE, NONE, 0));
        checks.due("note of port NONE", Checks.ILLEGAL_ARGUMENT, () -> x.note(0, 0, 0, NONE));
        checks.due("note of -2", Checks.ILLEGAL_ARGUMENT, () -> x.note(0, 0, -2, 0));
    }

    private void theOtherPortDoesNotMatterWithNone() {
        for (int otherPort : PORT.outside()) {
            LaneTrunks x = new LaneTrunks();
            x.note(2, 3, 4, 5);
            checks.due("note(2, 3, NONE, " + otherPort + ")", true,
                    () -> x.note(2, 3, NONE, otherPort));
            checks.due("nothing is written after it", false, () -> x.note(2, 3, NONE, 0));
        }
    }

    private void sameSwitchIsRefused() {
        for (int unit = 0; unit < 6; unit++) {
            for (int otherPort = 0; otherPort < 6; otherPort++) {
                int u = unit;
                int q = otherPort;
                for (String state : STATES.keySet()) {
                    checks.refused("cable(" + u + ", 0, " + u + ", " + q + ", 1), " + state,
                            Checks.ILLEGAL_ARGUMENT, STATES.get(state), x -> x.cable(u, 0, u, q, 1));
                }
            }
        }
    }
}
