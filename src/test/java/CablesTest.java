import java.util.function.Consumer;

/** Promises 8 to 12: what is at the far end of cables, and how frames come over them. */
public final class CablesTest {
    private static final int NONE = LaneTrunks.NONE;

    private final Checks checks = new Checks("CablesTest");

    public static void main(String[] args) {
        CablesTest test = new CablesTest();
        test.farTellsTheEnd();
        test.farFromAllPorts();
        test.isOnFollowsTheTree();
        test.ofSeveralCablesOneIsOn();
        test.eachWayUpIsOn();
        test.comesAsWithTags();
        test.comesAsWithoutTags();
        test.comesAsInEachLane();
        test.cablesThatAreOff();
        test.oneSidedCountsTags();
        test.oneSidedAtItsEnds();
        test.wrongComparesTheBook();
        test.wrongAtAllPorts();
        test.missingCablesAreRefused();
        test.checks.close();
    }

    private void farTellsTheEnd() {
        LaneTrunks x = new LaneTrunks();
        x.cable(0, 0, 5, 5, 1);
        x.cable(4, 3, 2, 0, 20);
        checks.due("far(0, 0)", 55, () -> x.far(0, 0));
        checks.due("far(5, 5)", 0, () -> x.far(5, 5));
        checks.due("far(4, 3)", 20, () -> x.far(4, 3));
        checks.due("far(2, 0)", 43, () -> x.far(2, 0));
        checks.due("far(3, 4)", NONE, () -> x.far(3, 4));
        x.tree(true);
        x.pull(0, 0);
        checks.due("far after pull", NONE, () -> x.far(5, 5));
    }

    private void farFromAllPorts() {
        LaneTrunks x = new LaneTrunks();
        for (int port = 0; port < 6; port++) {
            x.cable(0, port, 5, 5 - port, 1);
            x.cable(1, port, 4, (port + 1) % 6, 1);
        }
        for (int port = 0; port < 6; port++) {
            int p = port;
            checks.due("far(0, " + p + ")", 55 - p, () -> x.far(0, p));
            checks.due("far(5, " + p + ")", 5 - p, () -> x.far(5, p));
            checks.due("far(1, " + p + ")", 40 + (p + 1) % 6, () -> x.far(1, p));
            checks.due("far(4, " + p + ")", 10 + (p + 5) % 6, () -> x.far(4, p));
            checks.due("far(2, " + p + ")", NONE, () -> x.far(2, p));
        }
    }

    private void isOnFollowsTheTree() {
        LaneTrunks x = new LaneTrunks();
        x.cable(0, 0, 1, 0, 4);
        x.cable(1, 1, 2, 0, 4);
        x.cable(2, 1, 0, 1, 9);
        checks.due("isOn, tree off", true, () -> x.isOn(2, 1));
        x.tree(true);
        checks.due("isOn(0, 0)", true, () -> x.isOn(0, 0));
        checks.due("isOn(1, 0)", true, () -> x.isOn(1, 0));
        checks.due("isOn(1, 1)", true, () -> x.isOn(1, 1));
        checks.due("isOn(2, 0)", true, () -> x.isOn(2, 0));
        checks.due("isOn(2, 1)", false, () -> x.isOn(2, 1));
        checks.due("isOn(0, 1)", false, () -> x.isOn(0, 1));
        x.pull(1, 1);
        checks.due("isOn(2, 1) in its place", true, () -> x.isOn(2, 1));
        x.cable(1, 1, 2, 0, 5);
        checks.due("isOn, as dear but to a higher one", true, () -> x.isOn(2, 1));
        checks.due("isOn, as dear and to the lowest one", false, () -> x.isOn(1, 1));
    }

    private void ofSeveralCablesOneIsOn() {
        LaneTrunks x = new LaneTrunks();
        x.tree(true);
        x.cable(3, 0, 4, 5, 7);
        x.cable(3, 1, 4, 4, 7);
        checks.due("the lowest port of the higher one", true, () -> x.isOn(3, 1));
        checks.due("the lowest port of the root", false, () -> x.isOn(3, 0));
        x.cable(3, 2, 4, 2, 8);
        checks.due("a dearer one", false, () -> x.isOn(4, 2));
        x.cable(3, 3, 4, 3, 6);
        checks.due("a cheaper one", true, () -> x.isOn(4, 3));
        checks.due("no more the dearer one", false, () -> x.isOn(4, 4));
    }

    private void eachWayUpIsOn() {
        LaneTrunks x = new LaneTrunks();
        int[] order = {3, 0, 5, 1, 4, 2};
        for (int i = 0; i < 5; i++) {
            x.cable(order[i], 0, order[i + 1], 5, 20 - i);
        }
        x.cable(3, 1, 2, 1, 20);
        for (boolean isTreeOn : new boolean[] {true, false}) {
            x.tree(isTreeOn);
            for (int i = 0; i < 5; i++) {
                int unit = order[i];
                int next = order[i + 1];
                // Switch 2 comes to switch 0 at cost 40 over switch 3, switch 4 at 54 along the
                // chain: each has a better way up than the last cable of the chain.
                boolean want = !isTreeOn || i != 4;
                checks.due("isOn(" + unit + ", 0)", want, () -> x.isOn(unit, 0));
                checks.due("isOn(" + next + ", 5)", want, () -> x.isOn(next, 5));
            }
            checks.due("isOn(3, 1)", true, () -> x.isOn(3, 1));
            checks.due("isOn at a port without a cable", Checks.NO_SUCH_ELEMENT,
                    () -> x.isOn(3, 5));
        }
    }

    private void comesAsWithTags() {
        LaneTrunks x = new LaneTrunks();
        x.cable(0, 0, 1, 0, 1);
        checks.due("not carried", NONE, () -> x.comesAs(0, 0, 9));
        x.tag(0, 0, 9, true);
        checks.due("tagged here alone", NONE, () -> x.comesAs(0, 0, 9));
        checks.due("tagged there alone", NONE, () -> x.comesAs(1, 0, 9));
        x.untag(1, 0, 9);
        checks.due("tagged here, untagged there", NONE, () -> x.comesAs(0, 0, 9));
        checks.due("untagged here, tagged there, none untagged", NONE, () -> x.comesAs(1, 0, 9));
        x.untag(0, 0, 2);
        checks.due("tagged here, with another untagged", NONE, () -> x.comesAs(0, 0, 9));
        checks.due("untagged here, in the untagged one there", 2, () -> x.comesAs(1, 0, 9));
        x.untag(1, 0, 0);
        x.tag(1, 0, 9, true);
        checks.due("tagged at both ends", 9, () -> x.comesAs(0, 0, 9));
        checks.due("tagged at both ends", 9, () -> x.comesAs(1, 0, 9));
        checks.due("another lane", NONE, () -> x.comesAs(1, 0, 8));
    }

    private void comesAsWithoutTags() {
        LaneTrunks x = new LaneTrunks();
        x.cable(0, 0, 5, 5, 1);
        x.untag(0, 0, 1);
        checks.due("none untagged there", NONE, () -> x.comesAs(0, 0, 1));
        x.untag(5, 5, 15);
        checks.due("another untagged there", 15, () -> x.comesAs(0, 0, 1));
        checks.due("another untagged there", 1, () -> x.comesAs(5, 5, 15));
        checks.due("the one there", NONE, () -> x.comesAs(0, 0, 15));
        x.untag(5, 5, 1);
        checks.due("the same untagged there", 1, () -> x.comesAs(0, 0, 1));
    }

    private void comesAsInEachLane() {
        LaneTrunks x = new LaneTrunks();
        x.cable(0, 5, 5, 0, 1);
        for (int lane = 1; lane <= 15; lane++) {
            int l = lane;
            checks.due("no lane yet, " + l, NONE, () -> x.comesAs(0, 5, l));
            x.tag(0, 5, l, true);
            x.tag(5, 0, l, true);
            checks.due("tagged at both ends, " + l, l, () -> x.comesAs(0, 5, l));
            x.tag(0, 5, l, false);
            checks.due("tagged there alone, " + l, NONE, () -> x.comesAs(0, 5, l));
            checks.due("tagged here alone, " + l, NONE, () -> x.comesAs(5, 0, l));
            x.untag(0, 5, l);
            checks.due("none untagged there, " + l, NONE, () -> x.comesAs(0, 5, l));
            x.tag(5, 0, l, false);
            x.untag(5, 0, 16 - l);
            checks.due("untagged at both ends, " + l, 16 - l, () -> x.comesAs(0, 5, l));
            checks.due("untagged, from there, " + l, l, () -> x.comesAs(5, 0, 16 - l));
            x.untag(0, 5, 0);
            checks.due("untagged there alone, " + l, NONE, () -> x.comesAs(5, 0, 16 - l));
            x.untag(5, 0, 0);
        }
    }

    private void cablesThatAreOff() {
        LaneTrunks x = new LaneTrunks();
        x.cable(0, 0, 1, 0, 1);
        x.cable(0, 1, 1, 1, 2);
        x.tree(true);
        x.untag(0, 1, 3);
        x.untag(1, 1, 4);
        checks.due("the cable is off", false, () -> x.isOn(0, 1));
        checks.due("over a cable that is off", 4, () -> x.comesAs(0, 1, 3));
        checks.due("over a cable that is off, from there", 3, () -> x.comesAs(1, 1, 4));
        checks.due("the far end of a cable that is off", 11, () -> x.far(0, 1));
        checks.due("the cost of a cable that is off", 2, () -> x.pull(0, 1));
    }

    private void oneSidedCountsTags() {
        LaneTrunks x = new LaneTrunks();
        x.cable(0, 0, 1, 0, 1);
        checks.due("no tags", 0, () -> x.oneSided(0, 0));
        x.untag(0, 0, 3);
        checks.due("untagged at one end", 0, () -> x.oneSided(0, 0));
        x.tag(1, 0, 3, true);
        checks.due("untagged here, tagged there", 1, () -> x.oneSided(0, 0));
        x.tag(0, 0, 1, true);
        x.tag(0, 0, 15, true);
        checks.due("tags on both sides", 3, () -> x.oneSided(0, 0));
        checks.due("tags on both sides, from there", 3, () -> x.oneSided(1, 0));
        x.tag(1, 0, 15, true);
        checks.due("one at both ends", 2, () -> x.oneSided(0, 0));
        x.untag(0, 0, 0);
        for (int lane = 1; lane <= 15; lane++) {
            x.tag(0, 0, lane, true);
            x.tag(1, 0, lane, false);
        }
        checks.due("all at one end", 15, () -> x.oneSided(1, 0));
    }

    private void oneSidedAtItsEnds() {
        LaneTrunks x = new LaneTrunks();
        x.cable(0, 0, 1, 0, 1);
        x.cable(5, 5, 4, 4, 1);
        x.cable(5, 4, 4, 5, 2);
        x.tree(true);
        for (int lane = 1; lane <= 15; lane++) {
            int l = lane;
            x.tag(5, 4, l, true);
            checks.due("lanes 1 to " + l + " at one end", l, () -> x.oneSided(5, 4));
            checks.due("lanes 1 to " + l + " at one end, from there", l, () -> x.oneSided(4, 5));
        }
        checks.due("that cable is off", false, () -> x.isOn(5, 4));
        for (int lane = 1; lane <= 15; lane++) {
            int l = lane;
            x.tag(4, 5, l, true);
            checks.due("lanes 1 to " + l + " at both ends", 15 - l, () -> x.oneSided(5, 4));
        }
        checks.due("other cables", 0, () -> x.oneSided(0, 0));
    }

    private void wrongComparesTheBook() {
        LaneTrunks x = new LaneTrunks();
        x.note(0, 0, 1, 1);
        checks.due("no cable there", 1, x::wrong);
        x.cable(0, 0, 1, 1, 5);
        checks.due("as written", 0, x::wrong);
        x.note(1, 1, 0, 1);
        checks.due("another port", 1, x::wrong);
        x.note(1, 1, 2, 0);
        checks.due("another switch", 1, x::wrong);
        x.note(1, 1, 0, 0);
        checks.due("both as written", 0, x::wrong);
        x.note(5, 5, 5, 5);
        x.note(4, 4, 0, 0);
        checks.due("two without cables", 2, x::wrong);
        x.pull(0, 0);
        checks.due("and two at a pulled one", 4, x::wrong);
        x.note(5, 5, NONE, 0);
        checks.due("written no more", 3, x::wrong);
        x.cable(2, 2, 3, 3, 1);
        checks.due("nothing written at a cable", 3, x::wrong);
        x.tree(true);
        x.cable(2, 0, 3, 0, 9);
        x.note(2, 0, 3, 0);
        checks.due("as written, over a cable that is off", 3, x::wrong);
        x.note(2, 0, 3, 3);
        checks.due("another one, over a cable that is off", 4, x::wrong);
    }

    private void wrongAtAllPorts() {
        LaneTrunks x = new LaneTrunks();
        for (int slot = 0; slot < 36; slot++) {
            int before = slot;
            checks.due("wrong, " + slot + " ports noted", before, x::wrong);
            x.note(slot / 6, slot % 6, 5 - slot / 6, slot % 6);
        }
        checks.due("wrong at all ports", 36, x::wrong);
        for (int slot = 0; slot < 18; slot++) {
            int left = 34 - 2 * slot;
            x.cable(slot / 6, slot % 6, 5 - slot / 6, slot % 6, 3);
            checks.due("wrong, a cable as noted", left, x::wrong);
        }
        x.tree(true);
        checks.due("wrong, most cables off", 0, x::wrong);
        for (int slot = 0; slot < 18; slot++) {
            int again = 2 + 2 * slot;
            x.pull(slot / 6, slot % 6);
            checks.due("wrong, a cable pulled", again, x::wrong);
        }
    }

    private void missingCablesAreRefused() {
        missingCable("isOn(3, 3)", x -> x.isOn(3, 3));
        missingCable("isOn(0, 1)", x -> x.isOn(0, 1));
        missingCable("comesAs(5, 5, 15)", x -> x.comesAs(5, 5, 15));
        missingCable("comesAs(0, 1, 1), not carried", x -> x.comesAs(0, 1, 1));
        missingCable("oneSided(5, 5)", x -> x.oneSided(5, 5));
        missingCable("oneSided(0, 1), nothing tagged", x -> x.oneSided(0, 1));
    }

    private void missingCable(String what, Consumer<LaneTrunks> call) {
        checks.refused(what, Checks.NO_SUCH_ELEMENT, SettingsTest::someSettings, call);
        checks.refused(what + ", nothing laid", Checks.NO_SUCH_ELEMENT, x -> { }, call);
        checks.refused(what + ", tree off", Checks.NO_SUCH_ELEMENT, x -> {
            SettingsTest.someSettings(x);
            x.tree(false);
        }, call);
    }
}
