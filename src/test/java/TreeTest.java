/** Promises 13 to 15: roots, costs and ways up. */
public final class TreeTest {
    private static final int NONE = LaneTrunks.NONE;

    private final Checks checks = new Checks("TreeTest");

    public static void main(String[] args) {
        TreeTest test = new TreeTest();
        test.theLowestIsTheRoot();
        test.aLongWayIsTheCheapest();
        test.severalWaysUp();
        test.lanesDoNotMatter();
        test.questionsLeaveTheTree();
        test.portsOfOtherSwitches();
        test.wholeChains();
        test.noCablesNoWaysUp();
        test.joinedToHigherOnesAlone();
        test.treeOnOrOff();
        test.tiesAtAllPorts();
        test.tiesOfAllSwitches();
        test.checks.close();
    }

    private void tree(LaneTrunks x, int unit, int root, int cost, int wayUp) {
        checks.due("root(" + unit + ")", root, () -> x.root(unit));
        checks.due("costOf(" + unit + ")", cost, () -> x.costOf(unit));
        checks.due("wayUp(" + unit + ")", wayUp, () -> x.wayUp(unit));
    }

    private void theLowestIsTheRoot() {
        LaneTrunks x = new LaneTrunks();
        x.cable(5, 1, 4, 0, 20);
        tree(x, 4, 4, 0, NONE);
        tree(x, 5, 4, 20, 1);
        x.cable(5, 0, 3, 5, 2);
        tree(x, 3, 3, 0, NONE);
        tree(x, 4, 3, 22, 0);
        tree(x, 5, 3, 2, 0);
        x.cable(1, 0, 2, 0, 1);
        tree(x, 0, 0, 0, NONE);
        tree(x, 2, 1, 1, 0);
        tree(x, 5, 3, 2, 0);
        x.pull(3, 5);
        tree(x, 3, 3, 0, NONE);
        tree(x, 5, 4, 20, 1);
        tree(x, 4, 4, 0, NONE);
    }

    private void aLongWayIsTheCheapest() {
        LaneTrunks x = new LaneTrunks();
        x.cable(0, 0, 5, 0, 20);
        for (int unit = 0; unit < 5; unit++) {
            x.cable(unit, 1, unit + 1, 2, 3);
        }
        tree(x, 5, 0, 15, 2);
        tree(x, 4, 0, 12, 2);
        x.pull(0, 0);
        x.cable(0, 0, 5, 0, 14);
        tree(x, 5, 0, 14, 0);
        x.pull(2, 1);
        tree(x, 3, 0, 20, 1);
        tree(x, 2, 0, 6, 2);
    }

    private void severalWaysUp() {
        LaneTrunks x = new LaneTrunks();
        x.cable(0, 0, 2, 0, 5);
        x.cable(0, 1, 1, 0, 5);
        x.cable(2, 1, 3, 0, 4);
        x.cable(1, 1, 3, 5, 4);
        tree(x, 3, 0, 9, 5);
        x.cable(1, 5, 3, 4, 4);
        tree(x, 3, 0, 9, 4);
        x.cable(1, 4, 3, 2, 5);
        tree(x, 3, 0, 9, 4);
        x.cable(1, 3, 3, 3, 3);
        tree(x, 3, 0, 8, 3);
        x.tree(true);
        tree(x, 3, 0, 8, 3);
        tree(x, 0, 0, 0, NONE);
    }

    private void lanesDoNotMatter() {
        LaneTrunks x = new LaneTrunks();
        x.tree(true);
        x.cable(0, 0, 1, 0, 5);
        x.untag(0, 0, 1);
        x.tag(1, 0, 2, true);
        tree(x, 1, 0, 5, 0);
    }

    private void questionsLeaveTheTree() {
        LaneTrunks x = new LaneTrunks();
        x.cable(1, 0, 2, 0, 3);
        x.untag(1, 5, 1);
        x.untag(2, 5, 1);
        checks.due("changes before a cable", 2, () -> x.changes(1, 5, 2, 5));
        x.cable(2, 1, 3, 0, 3);
        tree(x, 2, 1, 3, 0);
        tree(x, 3, 1, 6, 0);
        x.cable(0, 0, 3, 1, 1);
        tree(x, 1, 0, 7, 0);
    }

    // The port 0 of switch 2 would be a way up of switch 1 too, if it were a port of switch 1.
    private void portsOfOtherSwitches() {
        LaneTrunks x = new LaneTrunks();
        x.cable(1, 1, 3, 0, 2);
        x.cable(3, 1, 0, 1, 3);
        x.cable(2, 0, 0, 0, 5);
        tree(x, 1, 0, 5, 1);
        tree(x, 2, 0, 5, 0);
        tree(x, 3, 0, 3, 1);
    }

    private void wholeChains() {
        LaneTrunks up = new LaneTrunks();
        LaneTrunks mixed = new LaneTrunks();
        int[] order = {5, 3, 1, 4, 2, 0};
        for (int i = 0; i < 5; i++) {
            up.cable(i, 0, i + 1, 1, 20);
            mixed.cable(order[i], 0, order[i + 1], 5, 20);
        }
        for (int i = 0; i < 6; i++) {
            tree(up, i, 0, 20 * i, i == 0 ? NONE : 1);
            tree(mixed, order[i], 0, 20 * (5 - i), i == 5 ? NONE : 0);
        }
    }

    private void noCablesNoWaysUp() {
        LaneTrunks x = new LaneTrunks();
        for (boolean isOn : new boolean[] {true, false}) {
            x.tree(isOn);
            for (int unit = 0; unit < 6; unit++) {
                tree(x, unit, unit, 0, NONE);
            }
        }
    }

    private void joinedToHigherOnesAlone() {
        LaneTrunks x = new LaneTrunks();
        for (int port = 0; port < 6; port++) {
            x.cable(4, port, 5, port, 1 + port);
        }
        tree(x, 4, 4, 0, NONE);
        tree(x, 5, 4, 1, 0);
        x.cable(1, 5, 2, 5, 20);
        x.cable(1, 0, 3, 0, 20);
        tree(x, 1, 1, 0, NONE);
        tree(x, 2, 1, 20, 5);
        tree(x, 3, 1, 20, 0);
        tree(x, 0, 0, 0, NONE);
        x.cable(0, 3, 3, 5, 1);
        tree(x, 1, 0, 21, 0);
        tree(x, 2, 0, 41, 5);
        tree(x, 3, 0, 1, 5);
    }

    private void treeOnOrOff() {
        LaneTrunks x = new LaneTrunks();
        x.cable(0, 0, 1, 1, 1);
        x.cable(1, 2, 2, 1, 1);
        x.cable(2, 2, 0, 1, 3);
        for (boolean isOn : new boolean[] {true, false, true}) {
            x.tree(isOn);
            tree(x, 0, 0, 0, NONE);
            tree(x, 1, 0, 1, 1);
            tree(x, 2, 0, 2, 1);
        }
        checks.due("a cable that is off", false, () -> x.isOn(2, 2));
        x.pull(1, 2);
        tree(x, 2, 0, 3, 2);
    }

    // The ports of the root are in the other order, so that its lowest one would tell another.
    private void tiesAtAllPorts() {
        LaneTrunks x = new LaneTrunks();
        for (int port = 5; port >= 0; port--) {
            int p = port;
            x.cable(5, p, 2, 5 - p, 20);
            tree(x, 5, 2, 20, p);
        }
        for (int port = 0; port < 5; port++) {
            x.pull(5, port);
            tree(x, 5, 2, 20, port + 1);
        }
        x.pull(5, 5);
        tree(x, 5, 5, 0, NONE);
    }

    // The lower switch is at the higher port of switch 5, so that the port would tell another.
    private void tiesOfAllSwitches() {
        LaneTrunks x = new LaneTrunks();
        for (int unit = 1; unit < 5; unit++) {
            x.cable(0, unit, unit, 0, 10);
        }
        for (int unit = 4; unit > 0; unit--) {
            x.cable(unit, 1, 5, 5 - unit, 10);
            tree(x, 5, 0, 20, 5 - unit);
        }
        x.cable(0, 5, 5, 5, 20);
        tree(x, 5, 0, 20, 5);
        x.pull(0, 1);
        tree(x, 1, 0, 30, 1);
    }
}
