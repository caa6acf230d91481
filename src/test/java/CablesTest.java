/** Promises 8 to 12: what is at the far end of cables, and how frames come over them. */
public final class CablesTest {
    private static final int NONE = LaneTrunks.NONE;
    private static final int[] BAD_UNITS = {-1, 6, 36, Integer.MIN_VALUE, Integer.MAX_VALUE};

    private final Checks checks = new Checks("CablesTest");

    public static void main(String[] args) {
        CablesTest test = new CablesTest();
        test.farTellsTheEnd();
        test.isOnFollowsTheTree();
        test.ofSeveralCablesOneIsOn();
        test.comesAsWithTags();
        test.comesAsWithoutTags();
        test.comesAsBeTheCableOff();
        test.oneSidedCountsTags();
        test.wrongComparesTheBook();
        test.badArgumentsAreRefused();
        test.missingCablesAreRefused();
        test.checks.close();
    }

    private void farTellsTheEnd() {
        LaneTrunks x = new LaneTrunks();
        x.cable(0, 0, 5, 5, 1);
        x.cable(4, 3, 2, 0, 20);
        checks.due("far(0, 0)", 55, () -> x.far(0, 0));
        checks.due("far(5, 5)", 0, () -> x.far(5, 5));
        checks.due("far(4, 3)", 20, () -> x.far(4, 3));
        checks.due("far(2, 0)", 43, () -> x.far(2, 0));
        checks.due("far(3, 4)", NONE, () -> x.far(3, 4));
        x.tree(true);
        x.pull(0, 0);
        checks.due("far after pull", NONE, () -> x.far(5, 5));
    }

    private void isOnFollowsTheTree() {
        LaneTrunks x = new LaneTrunks();
        x.cable(0, 0, 1, 0, 4);
        x.cable(1, 1, 2, 0, 4);
        x.cable(2, 1, 0, 1, 9);
        checks.due("isOn, tree off", true, () -> x.isOn(2, 1));
        x.tree(true);
        checks.due("isOn(0, 0)", true, () -> x.isOn(0, 0));
        checks.due("isOn(1, 0)", true, () -> x.isOn(1, 0));
        checks.due("isOn(1, 1)", true, () -> x.isOn(1, 1));
        checks.due("isOn(2, 0)", true, () -> x.isOn(2, 0));
        checks.due("isOn(2, 1)", false, () -> x.isOn(2, 1));
        checks.due("isOn(0, 1)", false, () -> x.isOn(0, 1));
        x.pull(1, 1);
        checks.due("isOn(2, 1) in its place", true, () -> x.isOn(2, 1));
        x.cable(1, 1, 2, 0, 5);
        checks.due("isOn, as dear but to a higher one", true, () -> x.isOn(2, 1));
        checks.due("isOn, as dear and to the lowest one", false, () -> x.isOn(1, 1));
    }

    private void ofSeveralCablesOneIsOn() {
        LaneTrunks x = new LaneTrunks();
        x.tree(true);
        x.cable(3, 0, 4, 5, 7);
        x.cable(3, 1, 4, 4, 7);
        checks.due("the lowest port of the higher one", true, () -> x.isOn(3, 1));
        checks.due("the lowest port of the root", false, () -> x.isOn(3, 0));
        x.cable(3, 2, 4, 2, 8);
        checks.due("a dearer one", false, () -> x.isOn(4, 2));
        x.cable(3, 3, 4, 3, 6);
        checks.due("a cheaper one", true, () -> x.isOn(4, 3));
        checks.due("no more the dearer one", false, () -> x.isOn(4, 4));
    }

    private void comesAsWithTags() {
        LaneTrunks x = new LaneTrunks();
        x.cable(0, 0, 1, 0, 1);
        checks.due("not carried", NONE, () -> x.comesAs(0, 0, 9));
        x.tag(0, 0, 9, true);
        checks.due("tagged here alone", NONE, () -> x.comesAs(0, 0, 9));
        checks.due("tagged there alone", NONE, () -> x.comesAs(1, 0, 9));
        x.untag(1, 0, 9);
        checks.due("tagged here, untagged there", NONE, () -> x.comesAs(0, 0, 9));
        checks.due("untagged here, tagged there, none untagged", NONE, () -> x.comesAs(1, 0, 9));
        x.untag(0, 0, 2);
        checks.due("tagged here, with another untagged", NONE, () -> x.comesAs(0, 0, 9));
        checks.due("untagged here, in the untagged one there", 2, () -> x.comesAs(1, 0, 9));
        x.untag(1, 0, 0);
        x.tag(1, 0, 9, true);
        checks.due("tagged at both ends", 9, () -> x.comesAs(0, 0, 9));
        checks.due("tagged at both ends", 9, () -> x.comesAs(1, 0, 9));
        checks.due("another lane", NONE, () -> x.comesAs(1, 0, 8));
    }

    private void comesAsWithoutTags() {
        LaneTrunks x = new LaneTrunks();
        x.cable(0, 0, 5, 5, 1);
        x.untag(0, 0, 1);
        checks.due("none untagged there", NONE, () -> x.comesAs(0, 0, 1));
        x.untag(5, 5, 15);
        checks.due("another untagged there", 15, () -> x.comesAs(0, 0, 1));
        checks.due("another untagged there", 1, () -> x.comesAs(5, 5, 15));
        checks.due("the one there", NONE, () -> x.comesAs(0, 0, 15));
        x.untag(5, 5, 1);
        checks.due("the same untagged there", 1, () -> x.comesAs(0, 0, 1));
    }

    private void comesAsBeTheCableOff() {
        LaneTrunks x = new LaneTrunks();
        x.cable(0, 0, 1, 0, 1);
        x.cable(0, 1, 1, 1, 2);
        x.tree(true);
        x.untag(0, 1, 3);
        x.untag(1, 1, 4);
        checks.due("the cable is off", false, () -> x.isOn(0, 1));
        checks.due("over a cable that is off", 4, () -> x.comesAs(0, 1, 3));
    }

    private void oneSidedCountsTags() {
        LaneTrunks x = new LaneTrunks();
        x.cable(0, 0, 1, 0, 1);
        checks.due("no tags", 0, () -> x.oneSided(0, 0));
        x.untag(0, 0, 3);
        checks.due("untagged at one end", 0, () -> x.oneSided(0, 0));
        x.tag(1, 0, 3, true);
        checks.due("untagged here, tagged there", 1, () -> x.oneSided(0, 0));
        x.tag(0, 0, 1, true);
        x.tag(0, 0, 15, true);
        checks.due("tags on both sides", 3, () -> x.oneSided(0, 0));
        checks.due("tags on both sides, from there", 3, () -> x.oneSided(1, 0));
        x.tag(1, 0, 15, true);
        checks.due("one at both ends", 2, () -> x.oneSided(0, 0));
        x.untag(0, 0, 0);
        for (int lane = 1; lane <= 15; lane++) {
            x.tag(0, 0, lane, true);
            x.tag(1, 0, lane, false);
        }
        checks.due("all at one end", 15, () -> x.oneSided(1, 0));
    }

    private void wrongComparesTheBook() {
        LaneTrunks x = new LaneTrunks();
        x.note(0, 0, 1, 1);
        checks.due("no cable there", 1, x::wrong);
        x.cable(0, 0, 1, 1, 5);
        checks.due("as written", 0, x::wrong);
        x.note(1, 1, 0, 1);
        checks.due("another port", 1, x::wrong);
        x.note(1, 1, 2, 0);
        checks.due("another switch", 1, x::wrong);
        x.note(1, 1, 0, 0);
        checks.due("both as written", 0, x::wrong);
        x.note(5, 5, 5, 5);
        x.note(4, 4, 0, 0);
        checks.due("two without cables", 2, x::wrong);
        x.pull(0, 0);
        checks.due("and two at a pulled one", 4, x::wrong);
        x.note(5, 5, NONE, 0);
        checks.due("written no more", 3, x::wrong);
        x.cable(2, 2, 3, 3, 1);
        checks.due("nothing written at a cable", 3, x::wrong);
        x.tree(true);
        x.cable(2, 0, 3, 0, 9);
        x.note(2, 0, 3, 0);
        checks.due("as written, over a cable that is off", 3, x::wrong);
    }

    private void badArgumentsAreRefused() {
        for (int bad : BAD_UNITS) {
            refused("far(" + bad + ", 0)", x -> x.far(bad, 0));
            refused("far(0, " + bad + ")", x -> x.far(0, bad));
            refused("isOn(" + bad + ", 0)", x -> x.isOn(bad, 0));
            refused("isOn(0, " + bad + ")", x -> x.isOn(0, bad));
            refused("comesAs(" + bad + ", 0, 1)", x -> x.comesAs(bad, 0, 1));
            refused("comesAs(0, " + bad + ", 1)", x -> x.comesAs(0, bad, 1));
            refused("oneSided(" + bad + ", 0)", x -> x.oneSided(bad, 0));
            refused("oneSided(0, " + bad + ")", x -> x.oneSided(0, bad));
        }
        for (int bad : new int[] {0, -1, 16, 32, Integer.MIN_VALUE, Integer.MAX_VALUE}) {
            refused("comesAs(0, 0, " + bad + ")", x -> x.comesAs(0, 0, bad));
            refused("comesAs(3, 3, " + bad + "), no cable", x -> x.comesAs(3, 3, bad));
        }
    }

    private void missingCablesAreRefused() {
        checks.refused("isOn(3, 3)", Checks.NO_SUCH_ELEMENT,
                SettingsTest::someSettings, x -> x.isOn(3, 3));
        checks.refused("comesAs(5, 5, 15)", Checks.NO_SUCH_ELEMENT,
                SettingsTest::someSettings, x -> x.comesAs(5, 5, 15));
        checks.refused("oneSided(5, 5)", Checks.NO_SUCH_ELEMENT,
                SettingsTest::someSettings, x -> x.oneSided(5, 5));
    }

    private void refused(String what, java.util.function.Consumer<LaneTrunks> call) {
        checks.refused(what, Checks.ILLEGAL_ARGUMENT, SettingsTest::someSettings, call);
    }
}
