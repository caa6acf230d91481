import java.util.function.Consumer;

/** Promises 1 to 7: a new object, and the calls that set. */
public final class SettingsTest {
    private static final int NONE = LaneTrunks.NONE;

    private final Checks checks = new Checks("SettingsTest");

    public static void main(String[] args) {
        SettingsTest test = new SettingsTest();
        test.aNewObjectIsEmpty();
        test.objectsShareNothing();
        test.allCallsAreAnswered();
        test.untagSets();
        test.untagBesideAllTags();
        test.untagRefuses();
        test.tagSets();
        test.tagTakesEachLane();
        test.tagRefuses();
        test.cableLays();
        test.cablesAtAllPorts();
        test.cableRefuses();
        test.pullPulls();
        test.pullAllCables();
        test.pullRefuses();
        test.treeSwitches();
        test.noteWrites();
        test.noteAtAllPorts();
        test.checks.close();
    }

    /** A state in which no part is as a new object has it. */
    static void someSettings(LaneTrunks x) {
        x.cable(0, 0, 1, 0, 4);
        x.cable(1, 1, 2, 0, 20);
        x.untag(0, 0, 3);
        x.untag(1, 0, 7);
        x.tag(0, 0, 5, true);
        x.tag(5, 5, 15, true);
        x.note(0, 0, 1, 0);
        x.note(3, 3, 4, 4);
        x.tree(true);
    }

    private void aNewObjectIsEmpty() {
        LaneTrunks x = new LaneTrunks();
        checks.due("NONE", -1, () -> NONE);
        for (int unit = 0; unit < 6; unit++) {
            int u = unit;
            for (int port = 0; port < 6; port++) {
                int p = port;
                checks.due("new: far", NONE, () -> x.far(u, p));
                checks.due("new: isOn", Checks.NO_SUCH_ELEMENT, () -> x.isOn(u, p));
                checks.due("new: untag", 0, () -> x.untag(u, p, 0));
                checks.due("new: note", false, () -> x.note(u, p, NONE, 0));
            }
            for (int lane = 1; lane <= 15; lane++) {
                int l = lane;
                checks.due("new: joined", 1, () -> x.joined(u, l));
            }
            checks.due("new: root", u, () -> x.root(u));
            checks.due("new: costOf", 0, () -> x.costOf(u));
            checks.due("new: wayUp", NONE, () -> x.wayUp(u));
        }
        checks.due("new: wrong", 0, x::wrong);
        checks.due("new: islands", 0, x::islands);
        checks.due("new: loops", 0, x::loops);
        checks.due("new: the first cable", 1, () -> x.cable(0, 0, 1, 0, 1));
        checks.due("new: tree", false, () -> x.tree(true));
        for (int port = 0; port < 36; port++) {
            newPortHasNoTags(port / 6, port % 6);
        }
    }

    private void newPortHasNoTags(int unit, int port) {
        LaneTrunks x = new LaneTrunks();
        for (int lane = 1; lane <= 15; lane++) {
            int l = lane;
            checks.due("new: tag", false, () -> x.tag(unit, port, l, false));
        }
    }

    private void objectsShareNothing() {
        LaneTrunks first = Checks.made(SettingsTest::someSettings);
        LaneTrunks second = new LaneTrunks();
        checks.due("a second object: far", NONE, () -> second.far(0, 0));
        checks.due("a second object: islands", 0, second::islands);
        checks.due("a second object: wrong", 0, second::wrong);
        checks.due("a second object: cable", 1, () -> second.cable(0, 0, 5, 0, 9));
        checks.due("a second object: tree", false, () -> second.tree(false));
        checks.due("a second object: root", 0, () -> second.root(5));
        checks.due("the first: far", 10, () -> first.far(0, 0));
        checks.due("the first: root", 5, () -> first.root(5));
        checks.due("the first: tree", true, () -> first.tree(true));
        checks.due("the first: pull", 4, () -> first.pull(0, 0));
    }

    private void allCallsAreAnswered() {
        LaneTrunks x = new LaneTrunks();
        x.cable(0, 0, 1, 0, 1);
        x.untag(0, 0, 1);
        x.untag(1, 0, 2);
        for (int call = 4; call <= 512; call++) {
            switch (call % 4) {
                case 0 -> checks.due("islands, call " + call, 1, x::islands);
                case 1 -> checks.due("refused, call " + call, Checks.ILLEGAL_STATE,
                        () -> x.cable(2, 0, 1, 0, 1));
                case 2 -> checks.due("hops, call " + call, 1, () -> x.hops(0, 1, 1, 2));
                default -> checks.due("joined, call " + call, 2, () -> x.joined(1, 2));
            }
        }
    }

    private void untagSets() {
        LaneTrunks x = new LaneTrunks();
        checks.due("untag none yet", 0, () -> x.untag(0, 0, 1));
        checks.due("untag the same", 1, () -> x.untag(0, 0, 1));
        checks.due("untag another", 1, () -> x.untag(0, 0, 15));
        checks.due("untag none", 15, () -> x.untag(0, 0, 0));
        checks.due("untag after none", 0, () -> x.untag(0, 0, 2));
        checks.due("untag the last port", 0, () -> x.untag(5, 5, 15));
        checks.due("untag another port", 0, () -> x.untag(0, 5, 1));
        checks.due("untag another unit", 0, () -> x.untag(5, 0, 1));
        checks.due("untag the last port again", 15, () -> x.untag(5, 5, 1));
        x.tag(1, 1, 9, true);
        x.tag(1, 1, 9, false);
        checks.due("untag what is tagged no more", 0, () -> x.untag(1, 1, 9));
        x.tag(2, 2, 9, true);
        checks.due("untag none beside a tagged one", 0, () -> x.untag(2, 2, 0));
        checks.due("untag what is tagged elsewhere", 0, () -> x.untag(2, 3, 9));
    }

    private void untagBesideAllTags() {
        LaneTrunks x = new LaneTrunks();
        for (int lane = 1; lane <= 15; lane++) {
            x.tag(2, 3, lane, true);
        }
        for (int lane = 1; lane <= 15; lane++) {
            int l = lane;
            checks.due("untag what is tagged, " + l, Checks.ILLEGAL_STATE, () -> x.untag(2, 3, l));
        }
        checks.due("untag none beside all tags", 0, () -> x.untag(2, 3, 0));
        checks.due("all lanes are tagged yet", true, () -> x.tag(2, 3, 8, false));
        checks.due("untag the one that is tagged no more", 0, () -> x.untag(2, 3, 8));
        checks.due("untag another one, tagged", Checks.ILLEGAL_STATE, () -> x.untag(2, 3, 9));
        checks.due("the refused call left it", 8, () -> x.untag(2, 3, 0));
    }

    private void untagRefuses() {
        refused("untag(0, 0, 5), tagged", x -> x.untag(0, 0, 5));
        refused("untag(5, 5, 15), tagged", x -> x.untag(5, 5, 15));
        checks.refused("untag(0, 0, 37), 5 is tagged", Checks.ILLEGAL_ARGUMENT,
                SettingsTest::someSettings, x -> x.untag(0, 0, 37));
        LaneTrunks x = Checks.made(SettingsTest::someSettings);
        checks.due("untag what is tagged at the far end", 7, () -> x.untag(1, 0, 5));
    }

    private void tagSets() {
        LaneTrunks x = new LaneTrunks();
        for (int lane = 1; lane <= 15; lane++) {
            int l = lane;
            checks.due("tag " + l, false, () -> x.tag(0, 0, l, true));
            checks.due("tag again " + l, true, () -> x.tag(0, 0, l, true));
        }
        checks.due("tag no more", true, () -> x.tag(0, 0, 7, false));
        checks.due("tag no more again", false, () -> x.tag(0, 0, 7, false));
        checks.due("the lanes beside it stay", true, () -> x.tag(0, 0, 6, true));
        checks.due("the lanes beside it stay", true, () -> x.tag(0, 0, 8, true));
        checks.due("tag another port", false, () -> x.tag(0, 1, 1, true));
        checks.due("tag the last port", false, () -> x.tag(5, 5, 15, true));
        checks.due("tag the last port again", true, () -> x.tag(5, 5, 15, false));
        x.untag(1, 1, 4);
        checks.due("tag beside the untagged one", false, () -> x.tag(1, 1, 5, true));
        checks.due("the untagged one is not tagged", false, () -> x.tag(1, 1, 4, false));
        checks.due("and stays the untagged one", 4, () -> x.untag(1, 1, 0));
        checks.due("tag what is untagged no more", false, () -> x.tag(1, 1, 4, true));
    }

    private void tagTakesEachLane() {
        for (int lane = 1; lane <= 15; lane++) {
            int l = lane;
            LaneTrunks x = new LaneTrunks();
            checks.due("untag " + l, 0, () -> x.untag(5, 5, l));
            checks.due("tag the untagged one " + l, Checks.ILLEGAL_STATE, () -> x.tag(5, 5, l, true));
            checks.due("do not tag it " + l, false, () -> x.tag(5, 5, l, false));
            checks.due("it stays untagged " + l, l, () -> x.untag(5, 5, l));
            for (int other = 1; other <= 15; other++) {
                int o = other;
                Object want = o == l ? Checks.ILLEGAL_STATE : "false";
                checks.due("tag " + o + " beside " + l, want, () -> x.tag(5, 5, o, true));
            }
        }
    }

    private void tagRefuses() {
        refused("tag(0, 0, 3, true), untagged", x -> x.tag(0, 0, 3, true));
        refused("tag(1, 0, 7, true), untagged", x -> x.tag(1, 0, 7, true));
        checks.refused("tag(3, 3, 0, true), nothing untagged", Checks.ILLEGAL_ARGUMENT,
                SettingsTest::someSettings, x -> x.tag(3, 3, 0, true));
        LaneTrunks x = Checks.made(SettingsTest::someSettings);
        checks.due("tag what is untagged at the far end", false, () -> x.tag(1, 0, 3, true));
    }

    private void cableLays() {
        LaneTrunks x = new LaneTrunks();
        checks.due("cable 1", 1, () -> x.cable(0, 0, 5, 5, 20));
        checks.due("cable 2", 2, () -> x.cable(5, 0, 0, 5, 1));
        checks.due("cable 3, between the same", 3, () -> x.cable(0, 1, 5, 1, 7));
        checks.due("its far end", 51, () -> x.far(0, 1));
        checks.due("its far end from there", 1, () -> x.far(5, 1));
        checks.due("its cost", 7, () -> x.pull(5, 1));
        checks.due("a cable in its place", 3, () -> x.cable(5, 1, 3, 1, 2));
        checks.due("the first port is free again", 4, () -> x.cable(0, 1, 4, 4, 2));
        checks.due("the costs stay", 20, () -> x.pull(5, 5));
        checks.due("the costs stay", 1, () -> x.pull(0, 5));
        checks.due("the least cost at the far end", 1, () -> cabled(1).pull(5, 0));
        checks.due("the greatest cost at the far end", 20, () -> cabled(20).pull(5, 0));
    }

    private static LaneTrunks cabled(int cost) {
        LaneTrunks x = new LaneTrunks();
        x.cable(0, 5, 5, 0, cost);
        return x;
    }

    // Of the cables 0 to 17, six each join the switches 0 and 1, 2 and 3, 4 and 5.
    private static int unitOf(int i) {
        return i / 6 * 2;
    }

    private static void allCables(LaneTrunks x) {
        for (int i = 0; i < 18; i++) {
            x.cable(unitOf(i), i % 6, unitOf(i) + 1, i % 6, 1 + i);
        }
    }

    private void cablesAtAllPorts() {
        LaneTrunks x = new LaneTrunks();
        for (int i = 0; i < 18; i++) {
            int port = i % 6;
            int unit = unitOf(i);
            checks.due("cable " + i, i + 1, () -> x.cable(unit, port, unit + 1, port, 20));
        }
        for (int unit = 0; unit < 6; unit++) {
            for (int port = 0; port < 6; port++) {
                int u = unit;
                int p = port;
                checks.due("no port is free: " + u + p, Checks.ILLEGAL_STATE,
                        () -> x.cable(u, p, (u + 3) % 6, p, 1));
            }
        }
        checks.due("pull one of all", 20, () -> x.pull(3, 5));
        checks.due("one port is free", Checks.ILLEGAL_STATE, () -> x.cable(3, 5, 4, 5, 1));
        checks.due("one port is free, from there", Checks.ILLEGAL_STATE,
                () -> x.cable(4, 5, 3, 5, 1));
        checks.due("all again", 18, () -> x.cable(3, 5, 2, 5, 1));
    }

    private void cableRefuses() {
        refused("cable(0, 0, 3, 3, 1)", x -> x.cable(0, 0, 3, 3, 1));
        refused("cable(3, 3, 0, 0, 1)", x -> x.cable(3, 3, 0, 0, 1));
        refused("cable(0, 0, 1, 0, 4)", x -> x.cable(0, 0, 1, 0, 4));
        refused("cable(1, 0, 0, 0, 4)", x -> x.cable(1, 0, 0, 0, 4));
        refused("cable(0, 0, 1, 1, 4)", x -> x.cable(0, 0, 1, 1, 4));
        checks.refused("a cable that is off", Checks.ILLEGAL_STATE, x -> {
            x.cable(0, 0, 1, 0, 1);
            x.cable(0, 1, 1, 1, 2);
            x.tree(true);
        }, x -> x.cable(0, 1, 2, 0, 1));
    }

    private void pullPulls() {
        LaneTrunks x = new LaneTrunks();
        x.cable(0, 0, 1, 0, 4);
        x.cable(2, 0, 3, 0, 9);
        checks.due("pull", 4, () -> x.pull(1, 0));
        checks.due("pull again", Checks.NO_SUCH_ELEMENT, () -> x.pull(1, 0));
        checks.due("pull at the far end", Checks.NO_SUCH_ELEMENT, () -> x.pull(0, 0));
        checks.due("far after pull", NONE, () -> x.far(0, 0));
        checks.due("the other stays", 30, () -> x.far(2, 0));
        checks.due("cables after pull", 2, () -> x.cable(0, 0, 1, 0, 5));
        checks.due("pull the new one", 5, () -> x.pull(0, 0));
        checks.due("pull the other", 9, () -> x.pull(2, 0));
        checks.due("root after pull", 3, () -> x.root(3));
    }

    private void pullAllCables() {
        LaneTrunks x = Checks.made(SettingsTest::allCables);
        for (int i = 0; i < 18; i++) {
            int port = i % 6;
            int unit = unitOf(i) + i % 2;
            checks.due("pull cable " + i, 1 + i, () -> x.pull(unit, port));
            checks.due("pull it again", Checks.NO_SUCH_ELEMENT, () -> x.pull(unit, port));
        }
        checks.due("no cables are left", 1, () -> x.cable(0, 0, 1, 0, 1));
    }

    private void pullRefuses() {
        checks.refused("pull(0, 1)", Checks.NO_SUCH_ELEMENT,
                SettingsTest::someSettings, x -> x.pull(0, 1));
        checks.refused("pull(5, 5), nothing laid", Checks.NO_SUCH_ELEMENT,
                x -> { }, x -> x.pull(5, 5));
        checks.refused("pull(0, 0), pulled at the far end", Checks.NO_SUCH_ELEMENT, x -> {
            SettingsTest.someSettings(x);
            x.pull(1, 0);
        }, x -> x.pull(0, 0));
    }

    private void treeSwitches() {
        LaneTrunks x = new LaneTrunks();
        checks.due("tree off to off", false, () -> x.tree(false));
        checks.due("tree off to on", false, () -> x.tree(true));
        checks.due("tree on to on", true, () -> x.tree(true));
        checks.due("tree on to off", true, () -> x.tree(false));
        checks.due("tree off again", false, () -> x.tree(true));
    }

    private void noteWrites() {
        LaneTrunks x = new LaneTrunks();
        checks.due("note first", false, () -> x.note(0, 0, 0, 0));
        checks.due("note in its place", true, () -> x.note(0, 0, 5, 5));
        checks.due("note at another port", false, () -> x.note(5, 5, 0, 0));
        checks.due("note the port itself", false, () -> x.note(3, 3, 3, 3));
        checks.due("note nothing more", true, () -> x.note(0, 0, NONE, 3));
        checks.due("note nothing again", false, () -> x.note(0, 0, NONE, Integer.MIN_VALUE));
        checks.due("note with any port", true, () -> x.note(5, 5, NONE, Integer.MAX_VALUE));
        checks.due("note after nothing", false, () -> x.note(0, 0, 1, 1));
    }

    private void noteAtAllPorts() {
        LaneTrunks x = new LaneTrunks();
        noteEach(x, 5, false);
        checks.due("all ports are noted", 36, x::wrong);
        noteEach(x, NONE, true);
        checks.due("nothing is noted any more", 0, x::wrong);
        noteEach(x, 0, false);
        checks.due("all ports are noted again", 36, x::wrong);
    }

    private void noteEach(LaneTrunks x, int otherUnit, boolean want) {
        for (int slot = 0; slot < 36; slot++) {
            int unit = slot / 6;
            int port = slot % 6;
            checks.due("note at " + unit + port, want, () -> x.note(unit, port, otherUnit, 0));
        }
    }

    private void refused(String what, Consumer<LaneTrunks> call) {
        checks.refused(what, Checks.ILLEGAL_STATE, SettingsTest::someSettings, call);
    }
}
