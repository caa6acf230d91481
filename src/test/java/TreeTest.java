/** Promises 13 to 15: roots, costs and ways up. */
public final class TreeTest {
    private static final int NONE = LaneTrunks.NONE;

    private final Checks checks = new Checks("TreeTest");

    public static void main(String[] args) {
        TreeTest test = new TreeTest();
        test.theLowestIsTheRoot();
        test.aLongWayIsTheCheapest();
        test.severalWaysUp();
        test.lanesDoNotMatter();
        test.questionsLeaveTheTree();
        test.portsOfOtherSwitches();
        test.wholeChains();
        test.badArgumentsAreRefused();
        test.checks.close();
    }

    private void tree(LaneTrunks x, int unit, int root, int cost, int wayUp) {
        checks.due("root(" + unit + ")", root, () -> x.root(unit));
        checks.due("costOf(" + unit + ")", cost, () -> x.costOf(unit));
        checks.due("wayUp(" + unit + ")", wayUp, () -> x.wayUp(unit));
    }

    private void theLowestIsTheRoot() {
        LaneTrunks x = new LaneTrunks();
        x.cable(5, 1, 4, 0, 20);
        tree(x, 4, 4, 0, NONE);
        tree(x, 5, 4, 20, 1);
        x.cable(5, 0, 3, 5, 2);
        tree(x, 3, 3, 0, NONE);
        tree(x, 4, 3, 22, 0);
        tree(x, 5, 3, 2, 0);
        x.cable(1, 0, 2, 0, 1);
        tree(x, 0, 0, 0, NONE);
        tree(x, 2, 1, 1, 0);
        tree(x, 5, 3, 2, 0);
        x.pull(3, 5);
        tree(x, 3, 3, 0, NONE);
        tree(x, 5, 4, 20, 1);
        tree(x, 4, 4, 0, NONE);
    }

    private void aLongWayIsTheCheapest() {
        LaneTrunks x = new LaneTrunks();
        x.cable(0, 0, 5, 0, 20);
        for (int unit = 0; unit < 5; unit++) {
            x.cable(unit, 1, unit + 1, 2, 3);
        }
        tree(x, 5, 0, 15, 2);
        tree(x, 4, 0, 12, 2);
        x.pull(0, 0);
        x.cable(0, 0, 5, 0, 14);
        tree(x, 5, 0, 14, 0);
        x.pull(2, 1);
        tree(x, 3, 0, 20, 1);
        tree(x, 2, 0, 6, 2);
    }

    private void severalWaysUp() {
        LaneTrunks x = new LaneTrunks();
        x.cable(0, 0, 2, 0, 5);
        x.cable(0, 1, 1, 0, 5);
        x.cable(2, 1, 3, 0, 4);
        x.cable(1, 1, 3, 5, 4);
        tree(x, 3, 0, 9, 5);
        x.cable(1, 5, 3, 4, 4);
        tree(x, 3, 0, 9, 4);
        x.cable(1, 4, 3, 2, 5);
        tree(x, 3, 0, 9, 4);
        x.cable(1, 3, 3, 3, 3);
        tree(x, 3, 0, 8, 3);
        x.tree(true);
        tree(x, 3, 0, 8, 3);
        tree(x, 0, 0, 0, NONE);
    }

    private void lanesDoNotMatter() {
        LaneTrunks x = new LaneTrunks();
        x.tree(true);
        x.cable(0, 0, 1, 0, 5);
        x.untag(0, 0, 1);
        x.tag(1, 0, 2, true);
        tree(x, 1, 0, 5, 0);
    }

    private void questionsLeaveTheTree() {
        LaneTrunks x = new LaneTrunks();
        x.cable(1, 0, 2, 0, 3);
        x.untag(1, 5, 1);
        x.untag(2, 5, 1);
        checks.due("changes before a cable", 2, () -> x.changes(1, 5, 2, 5));
        x.cable(2, 1, 3, 0, 3);
        tree(x, 2, 1, 3, 0);
        tree(x, 3, 1, 6, 0);
        x.cable(0, 0, 3, 1, 1);
        tree(x, 1, 0, 7, 0);
    }

    // The port 0 of switch 2 would be a way up of switch 1 too, if it were a port of switch 1.
    private void portsOfOtherSwitches() {
        LaneTrunks x = new LaneTrunks();
        x.cable(1, 1, 3, 0, 2);
        x.cable(3, 1, 0, 1, 3);
        x.cable(2, 0, 0, 0, 5);
        tree(x, 1, 0, 5, 1);
        tree(x, 2, 0, 5, 0);
        tree(x, 3, 0, 3, 1);
    }

    private void wholeChains() {
        LaneTrunks up = new LaneTrunks();
        LaneTrunks mixed = new LaneTrunks();
        int[] order = {5, 3, 1, 4, 2, 0};
        for (int i = 0; i < 5; i++) {
            up.cable(i, 0, i + 1, 1, 20);
            mixed.cable(order[i], 0, order[i + 1], 5, 20);
        }
        for (int i = 0; i < 6; i++) {
            tree(up, i, 0, 20 * i, i == 0 ? NONE : 1);
            tree(mixed, order[i], 0, 20 * (5 - i), i == 5 ? NONE : 0);
        }
    }

    private void badArgumentsAreRefused() {
        for (int bad : new int[] {-1, 6, 36, Integer.MIN_VALUE, Integer.MAX_VALUE}) {
            checks.refused("root(" + bad + ")", Checks.ILLEGAL_ARGUMENT,
                    SettingsTest::someSettings, x -> x.root(bad));
            checks.refused("costOf(" + bad + ")", Checks.ILLEGAL_ARGUMENT,
                    SettingsTest::someSettings, x -> x.costOf(bad));
            checks.refused("wayUp(" + bad + ")", Checks.ILLEGAL_ARGUMENT,
                    SettingsTest::someSettings, x -> x.wayUp(bad));
        }
    }
}
