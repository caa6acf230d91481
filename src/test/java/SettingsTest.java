/** Promises 1 to 7: a new object, and the calls that set. */
public final class SettingsTest {
    private static final int NONE = LaneTrunks.NONE;
    private static final int[] BAD_UNITS = {-1, -2, 6, 36, Integer.MIN_VALUE, Integer.MAX_VALUE};
    private static final int[] BAD_LANES = {-1, 16, 32, Integer.MIN_VALUE, Integer.MAX_VALUE};

    private final Checks checks = new Checks("SettingsTest");

    public static void main(String[] args) {
        SettingsTest test = new SettingsTest();
        test.aNewObjectIsEmpty();
        test.untagSets();
        test.untagRefuses();
        test.tagSets();
        test.tagRefuses();
        test.cableLays();
        test.cableRefuses();
        test.pullPulls();
        test.pullRefuses();
        test.treeSwitches();
        test.noteWrites();
        test.noteRefuses();
        test.checks.close();
    }

    /** A state in which no part is as a new object has it. */
    static void someSettings(LaneTrunks x) {
        x.cable(0, 0, 1, 0, 4);
        x.cable(1, 1, 2, 0, 20);
        x.untag(0, 0, 3);
        x.untag(1, 0, 7);
        x.tag(0, 0, 5, true);
        x.tag(5, 5, 15, true);
        x.note(0, 0, 1, 0);
        x.note(3, 3, 4, 4);
        x.tree(true);
    }

    private void aNewObjectIsEmpty() {
        LaneTrunks x = new LaneTrunks();
        checks.due("NONE", -1, () -> NONE);
        for (int unit = 0; unit < 6; unit++) {
            int u = unit;
            for (int port = 0; port < 6; port++) {
                int p = port;
                checks.due("new: far", NONE, () -> x.far(u, p));
                checks.due("new: isOn", Checks.NO_SUCH_ELEMENT, () -> x.isOn(u, p));
                checks.due("new: untag", 0, () -> x.untag(u, p, 0));
                checks.due("new: note", false, () -> x.note(u, p, NONE, 0));
            }
            for (int lane = 1; lane <= 15; lane++) {
                int l = lane;
                checks.due("new: tag", false, () -> x.tag(u, u, l, false));
                checks.due("new: joined", 1, () -> x.joined(u, l));
            }
            checks.due("new: root", u, () -> x.root(u));
            checks.due("new: costOf", 0, () -> x.costOf(u));
            checks.due("new: wayUp", NONE, () -> x.wayUp(u));
        }
        checks.due("new: wrong", 0, x::wrong);
        checks.due("new: islands", 0, x::islands);
        checks.due("new: loops", 0, x::loops);
        checks.due("new: the first cable", 1, () -> x.cable(0, 0, 1, 0, 1));
        checks.due("new: tree", false, () -> x.tree(true));
    }

    private void untagSets() {
        LaneTrunks x = new LaneTrunks();
        checks.due("untag none yet", 0, () -> x.untag(0, 0, 1));
        checks.due("untag the same", 1, () -> x.untag(0, 0, 1));
        checks.due("untag another", 1, () -> x.untag(0, 0, 15));
        checks.due("untag none", 15, () -> x.untag(0, 0, 0));
        checks.due("untag after none", 0, () -> x.untag(0, 0, 2));
        checks.due("untag the last port", 0, () -> x.untag(5, 5, 15));
        checks.due("untag another port", 0, () -> x.untag(0, 5, 1));
        checks.due("untag another unit", 0, () -> x.untag(5, 0, 1));
        checks.due("untag the last port again", 15, () -> x.untag(5, 5, 1));
        x.tag(1, 1, 9, true);
        x.tag(1, 1, 9, false);
        checks.due("untag what is tagged no more", 0, () -> x.untag(1, 1, 9));
        x.tag(2, 2, 9, true);
        checks.due("untag none beside a tagged one", 0, () -> x.untag(2, 2, 0));
        checks.due("untag what is tagged elsewhere", 0, () -> x.untag(2, 3, 9));
    }

    private void untagRefuses() {
        for (int bad : BAD_UNITS) {
            refused("untag(" + bad + ", 0, 1)", x -> x.untag(bad, 0, 1));
            refused("untag(0, " + bad + ", 1)", x -> x.untag(0, bad, 1));
        }
        for (int bad : BAD_LANES) {
            refused("untag(0, 0, " + bad + ")", x -> x.untag(0, 0, bad));
        }
        checks.refused("untag(0, 0, 5), tagged", Checks.ILLEGAL_STATE,
                SettingsTest::someSettings, x -> x.untag(0, 0, 5));
        checks.refused("untag(5, 5, 15), tagged", Checks.ILLEGAL_STATE,
                SettingsTest::someSettings, x -> x.untag(5, 5, 15));
    }

    private void tagSets() {
        LaneTrunks x = new LaneTrunks();
        for (int lane = 1; lane <= 15; lane++) {
            int l = lane;
            checks.due("tag " + l, false, () -> x.tag(0, 0, l, true));
            checks.due("tag again " + l, true, () -> x.tag(0, 0, l, true));
        }
        checks.due("tag no more", true, () -> x.tag(0, 0, 7, false));
        checks.due("tag no more again", false, () -> x.tag(0, 0, 7, false));
        checks.due("the lanes beside it stay", true, () -> x.tag(0, 0, 6, true));
        checks.due("the lanes beside it stay", true, () -> x.tag(0, 0, 8, true));
        checks.due("tag another port", false, () -> x.tag(0, 1, 1, true));
        checks.due("tag the last port", false, () -> x.tag(5, 5, 15, true));
        checks.due("tag the last port again", true, () -> x.tag(5, 5, 15, false));
        x.untag(1, 1, 4);
        checks.due("tag beside the untagged one", false, () -> x.tag(1, 1, 5, true));
        checks.due("the untagged one is not tagged", false, () -> x.tag(1, 1, 4, false));
        checks.due("and stays the untagged one", 4, () -> x.untag(1, 1, 0));
        checks.due("tag what is untagged no more", false, () -> x.tag(1, 1, 4, true));
    }

    private void tagRefuses() {
        for (int bad : BAD_UNITS) {
            refused("tag(" + bad + ", 0, 1, true)", x -> x.tag(bad, 0, 1, true));
            refused("tag(0, " + bad + ", 1, false)", x -> x.tag(0, bad, 1, false));
        }
        for (int bad : BAD_LANES) {
            refused("tag(0, 0, " + bad + ", true)", x -> x.tag(0, 0, bad, true));
        }
        refused("tag(0, 0, 0, true)", x -> x.tag(0, 0, 0, true));
        refused("tag(3, 3, 0, true), nothing untagged", x -> x.tag(3, 3, 0, true));
        refused("tag(3, 3, 0, false)", x -> x.tag(3, 3, 0, false));
        checks.refused("tag(0, 0, 3, true), untagged", Checks.ILLEGAL_STATE,
                SettingsTest::someSettings, x -> x.tag(0, 0, 3, true));
    }

    private void cableLays() {
        LaneTrunks x = new LaneTrunks();
        checks.due("cable 1", 1, () -> x.cable(0, 0, 5, 5, 20));
        checks.due("cable 2", 2, () -> x.cable(5, 0, 0, 5, 1));
        checks.due("cable 3, between the same", 3, () -> x.cable(0, 1, 5, 1, 7));
        checks.due("its far end", 51, () -> x.far(0, 1));
        checks.due("its far end from there", 1, () -> x.far(5, 1));
        checks.due("its cost", 7, () -> x.pull(5, 1));
        checks.due("a cable in its place", 3, () -> x.cable(5, 1, 3, 1, 2));
        checks.due("the first port is free again", 4, () -> x.cable(0, 1, 4, 4, 2));
        checks.due("the costs stay", 20, () -> x.pull(5, 5));
        checks.due("the costs stay", 1, () -> x.pull(0, 5));
        int most = 18;
        LaneTrunks full = new LaneTrunks();
        for (int i = 0; i < most; i++) {
            int port = i % 6;
            int unit = i / 6 * 2;
            checks.due("cable " + i, i + 1, () -> full.cable(unit, port, unit + 1, port, 20));
        }
        checks.due("a full port", Checks.ILLEGAL_STATE, () -> full.cable(0, 0, 2, 0, 1));
    }

    private void cableRefuses() {
        for (int bad : BAD_UNITS) {
            refused("cable(" + bad + ", 2, 3, 3, 1)", x -> x.cable(bad, 2, 3, 3, 1));
            refused("cable(2, " + bad + ", 3, 3, 1)", x -> x.cable(2, bad, 3, 3, 1));
            refused("cable(2, 2, " + bad + ", 3, 1)", x -> x.cable(2, 2, bad, 3, 1));
            refused("cable(2, 2, 3, " + bad + ", 1)", x -> x.cable(2, 2, 3, bad, 1));
        }
        for (int bad : new int[] {0, -1, 21, Integer.MIN_VALUE, Integer.MAX_VALUE}) {
            refused("cable(2, 2, 3, 3, " + bad + ")", x -> x.cable(2, 2, 3, 3, bad));
            refused("cable(0, 0, 1, 0, " + bad + ")", x -> x.cable(0, 0, 1, 0, bad));
        }
        refused("cable(2, 2, 2, 3, 1)", x -> x.cable(2, 2, 2, 3, 1));
        refused("cable(0, 0, 0, 0, 1), one taken", x -> x.cable(0, 0, 0, 0, 1));
        refused("cable(0, 0, 0, 6, 1), one taken", x -> x.cable(0, 0, 0, 6, 1));
        checks.refused("cable(0, 0, 3, 3, 1)", Checks.ILLEGAL_STATE,
                SettingsTest::someSettings, x -> x.cable(0, 0, 3, 3, 1));
        checks.refused("cable(3, 3, 0, 0, 1)", Checks.ILLEGAL_STATE,
                SettingsTest::someSettings, x -> x.cable(3, 3, 0, 0, 1));
        checks.refused("cable(0, 0, 1, 0, 4)", Checks.ILLEGAL_STATE,
                SettingsTest::someSettings, x -> x.cable(0, 0, 1, 0, 4));
    }

    private void pullPulls() {
        LaneTrunks x = new LaneTrunks();
        x.cable(0, 0, 1, 0, 4);
        x.cable(2, 0, 3, 0, 9);
        checks.due("pull", 4, () -> x.pull(1, 0));
        checks.due("pull again", Checks.NO_SUCH_ELEMENT, () -> x.pull(1, 0));
        checks.due("pull at the far end", Checks.NO_SUCH_ELEMENT, () -> x.pull(0, 0));
        checks.due("far after pull", NONE, () -> x.far(0, 0));
        checks.due("the other stays", 30, () -> x.far(2, 0));
        checks.due("cables after pull", 2, () -> x.cable(0, 0, 1, 0, 5));
        checks.due("pull the new one", 5, () -> x.pull(0, 0));
        checks.due("pull the other", 9, () -> x.pull(2, 0));
        checks.due("root after pull", 3, () -> x.root(3));
    }

    private void pullRefuses() {
        for (int bad : BAD_UNITS) {
            refused("pull(" + bad + ", 0)", x -> x.pull(bad, 0));
            refused("pull(0, " + bad + ")", x -> x.pull(0, bad));
        }
        checks.refused("pull(0, 1)", Checks.NO_SUCH_ELEMENT,
                SettingsTest::someSettings, x -> x.pull(0, 1));
    }

    private void treeSwitches() {
        LaneTrunks x = new LaneTrunks();
        checks.due("tree off to off", false, () -> x.tree(false));
        checks.due("tree off to on", false, () -> x.tree(true));
        checks.due("tree on to on", true, () -> x.tree(true));
        checks.due("tree on to off", true, () -> x.tree(false));
        checks.due("tree off again", false, () -> x.tree(true));
    }

    private void noteWrites() {
        LaneTrunks x = new LaneTrunks();
        checks.due("note first", false, () -> x.note(0, 0, 0, 0));
        checks.due("note in its place", true, () -> x.note(0, 0, 5, 5));
        checks.due("note at another port", false, () -> x.note(5, 5, 0, 0));
        checks.due("note the port itself", false, () -> x.note(3, 3, 3, 3));
        checks.due("note nothing more", true, () -> x.note(0, 0, NONE, 3));
        checks.due("note nothing again", false, () -> x.note(0, 0, NONE, Integer.MIN_VALUE));
        checks.due("note with any port", true, () -> x.note(5, 5, NONE, Integer.MAX_VALUE));
        checks.due("note after nothing", false, () -> x.note(0, 0, 1, 1));
    }

    private void noteRefuses() {
        for (int bad : BAD_UNITS) {
            refused("note(" + bad + ", 0, 1, 1)", x -> x.note(bad, 0, 1, 1));
            refused("note(0, " + bad + ", 1, 1)", x -> x.note(0, bad, 1, 1));
            refused("note(" + bad + ", 0, NONE, 1)", x -> x.note(bad, 0, NONE, 1));
            refused("note(0, " + bad + ", NONE, 1)", x -> x.note(0, bad, NONE, 1));
            refused("note(0, 0, 1, " + bad + ")", x -> x.note(0, 0, 1, bad));
            if (bad != NONE) {
                refused("note(0, 0, " + bad + ", 1)", x -> x.note(0, 0, bad, 1));
            }
        }
    }

    private void refused(String what, java.util.function.Consumer<LaneTrunks> call) {
        checks.refused(what, Checks.ILLEGAL_ARGUMENT, SettingsTest::someSettings, call);
    }
}
