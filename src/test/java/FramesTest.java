/** Promises 16 to 21: where frames come, islands, loops and changes. */
public final class FramesTest {
    private static final int NONE = LaneTrunks.NONE;
    private static final int[] BAD_UNITS = {-1, 6, 36, Integer.MIN_VALUE, Integer.MAX_VALUE};
    private static final int[] BAD_LANES = {0, -1, 16, Integer.MIN_VALUE, Integer.MAX_VALUE};

    private final Checks checks = new Checks("FramesTest");

    public static void main(String[] args) {
        FramesTest test = new FramesTest();
        test.hopsAlongAChain();
        test.hopsTakeTheShortestWay();
        test.hopsOverChangingLanes();
        test.meetNeedsUntaggedLanes();
        test.joinedCountsPlaces();
        test.islandsOfUsedPlaces();
        test.loopsOfWays();
        test.loopsOverOneCable();
        test.changesPutTags();
        test.changesStayInTheLane();
        test.changesKeepTheTree();
        test.badPlacesAreRefused();
        test.badPortsAreRefused();
        test.checks.close();
    }

    private static void tagBoth(LaneTrunks x, int unit, int port, int lane) {
        int end = x.far(unit, port);
        x.tag(unit, port, lane, true);
        x.tag(end / 10, end % 10, lane, true);
    }

    private static LaneTrunks chain(int lane) {
        LaneTrunks x = new LaneTrunks();
        for (int unit = 0; unit < 5; unit++) {
            x.cable(unit, 0, unit + 1, 1, 1);
            tagBoth(x, unit, 0, lane);
        }
        return x;
    }

    private void hopsAlongAChain() {
        LaneTrunks x = chain(15);
        for (int from = 0; from < 6; from++) {
            for (int to = 0; to < 6; to++) {
                int f = from;
                int t = to;
                checks.due("hops(" + f + ", 15, " + t + ", 15)", Math.abs(f - t),
                        () -> x.hops(f, 15, t, 15));
            }
        }
        checks.due("hops to a place that is not used", NONE, () -> x.hops(0, 15, 0, 1));
        checks.due("hops from a place that is not used", NONE, () -> x.hops(0, 1, 1, 1));
        checks.due("hops to the same, not used", 0, () -> x.hops(3, 1, 3, 1));
        x.tag(3, 1, 15, false);
        checks.due("hops where it is dropped", NONE, () -> x.hops(0, 15, 5, 15));
        checks.due("hops before that", 2, () -> x.hops(0, 15, 2, 15));
        checks.due("hops behind that", 2, () -> x.hops(5, 15, 3, 15));
    }

    private void hopsTakeTheShortestWay() {
        LaneTrunks x = chain(2);
        x.cable(0, 5, 4, 5, 20);
        tagBoth(x, 0, 5, 2);
        checks.due("hops over the dear cable", 2, () -> x.hops(0, 2, 5, 2));
        checks.due("hops the other way", 2, () -> x.hops(0, 2, 3, 2));
        x.tree(true);
        checks.due("hops with that cable off", 5, () -> x.hops(0, 2, 5, 2));
    }

    private void hopsOverChangingLanes() {
        LaneTrunks x = new LaneTrunks();
        x.cable(0, 0, 1, 0, 1);
        x.cable(1, 1, 0, 1, 1);
        x.untag(0, 0, 1);
        x.untag(1, 0, 2);
        x.untag(1, 1, 2);
        x.untag(0, 1, 3);
        checks.due("hops into another lane", 1, () -> x.hops(0, 1, 1, 2));
        checks.due("hops not into the same", NONE, () -> x.hops(0, 1, 1, 1));
        checks.due("hops back in a third lane", 2, () -> x.hops(0, 1, 0, 3));
        checks.due("hops from there", 2, () -> x.hops(0, 3, 0, 1));
    }

    private void meetNeedsUntaggedLanes() {
        LaneTrunks x = chain(4);
        checks.due("meet, nothing untagged", false, () -> x.meet(0, 5, 5, 5));
        checks.due("meet itself, nothing untagged", false, () -> x.meet(0, 5, 0, 5));
        x.untag(0, 5, 4);
        checks.due("meet, one untagged", false, () -> x.meet(0, 5, 5, 5));
        checks.due("meet, one untagged, from there", false, () -> x.meet(5, 5, 0, 5));
        checks.due("meet itself", true, () -> x.meet(0, 5, 0, 5));
        x.untag(5, 5, 4);
        checks.due("meet", true, () -> x.meet(0, 5, 5, 5));
        checks.due("meet a tagged one", false, () -> x.meet(0, 5, 5, 1));
        x.untag(0, 4, 4);
        checks.due("meet at one switch", true, () -> x.meet(0, 4, 0, 5));
        x.untag(0, 4, 5);
        checks.due("meet in another lane", false, () -> x.meet(0, 4, 0, 5));
        x.untag(5, 5, 5);
        checks.due("meet in another lane", false, () -> x.meet(0, 4, 5, 5));
        x.cable(4, 4, 5, 4, 1);
        x.untag(4, 4, 4);
        x.untag(5, 4, 5);
        checks.due("meet over changing lanes", true, () -> x.meet(0, 5, 5, 5));
        x.tree(true);
        checks.due("meet with that cable off", false, () -> x.meet(0, 5, 5, 5));
    }

    private void joinedCountsPlaces() {
        LaneTrunks x = chain(4);
        checks.due("joined, all", 6, () -> x.joined(3, 4));
        checks.due("joined, not used", 1, () -> x.joined(3, 5));
        x.untag(0, 5, 7);
        x.untag(5, 5, 8);
        x.cable(0, 5, 5, 5, 1);
        checks.due("joined over another cable", 2, () -> x.joined(0, 7));
        x.tag(2, 0, 4, false);
        checks.due("joined, cut", 3, () -> x.joined(0, 4));
        checks.due("joined, cut", 3, () -> x.joined(5, 4));
        checks.due("joined twice over", 3, () -> x.joined(5, 4));
        x.pull(4, 0);
        checks.due("joined, pulled", 1, () -> x.joined(5, 4));
    }

    private void islandsOfUsedPlaces() {
        LaneTrunks x = new LaneTrunks();
        x.untag(0, 0, 1);
        checks.due("one used place", 1, x::islands);
        x.tag(0, 1, 1, true);
        checks.due("the same place", 1, x::islands);
        x.tag(0, 1, 15, true);
        x.tag(5, 5, 15, true);
        checks.due("three places", 3, x::islands);
        x.cable(0, 1, 5, 5, 1);
        checks.due("two of them joined", 2, x::islands);
        x.tag(0, 1, 15, false);
        checks.due("one no more", 2, x::islands);
        x.untag(0, 0, 0);
        checks.due("the lane is carried yet", 2, x::islands);
        x.tag(0, 1, 1, false);
        checks.due("one left", 1, x::islands);
        LaneTrunks all = new LaneTrunks();
        for (int unit = 0; unit < 6; unit++) {
            for (int lane = 1; lane <= 15; lane++) {
                all.tag(unit, lane % 6, lane, true);
            }
        }
        checks.due("all places, no cables", 90, all::islands);
        checks.due("no loops there", 0, all::loops);
    }

    private void loopsOfWays() {
        LaneTrunks x = chain(3);
        checks.due("a chain", 0, x::loops);
        x.cable(0, 5, 5, 5, 20);
        checks.due("a ring without the lane", 0, x::loops);
        x.tag(0, 5, 3, true);
        checks.due("a ring, open at one end", 0, x::loops);
        x.tag(5, 5, 3, true);
        checks.due("a ring", 1, x::loops);
        x.cable(0, 4, 1, 4, 20);
        tagBoth(x, 0, 4, 3);
        checks.due("a ring and a second cable", 2, x::loops);
        checks.due("one island", 1, x::islands);
        x.tree(true);
        checks.due("the tree cuts them", 0, x::loops);
        x.tree(false);
        checks.due("off again", 2, x::loops);
    }

    private void loopsOverOneCable() {
        LaneTrunks x = new LaneTrunks();
        x.cable(0, 0, 1, 0, 1);
        tagBoth(x, 0, 0, 1);
        tagBoth(x, 0, 0, 2);
        x.untag(0, 0, 3);
        x.untag(1, 0, 4);
        checks.due("three ways of one cable", 0, x::loops);
        checks.due("three islands", 3, x::islands);
        x.cable(0, 1, 1, 1, 1);
        x.untag(0, 1, 1);
        x.untag(1, 1, 2);
        checks.due("two islands joined", 2, x::islands);
        checks.due("and no loop", 0, x::loops);
        x.cable(0, 2, 1, 2, 1);
        x.untag(0, 2, 2);
        x.untag(1, 2, 1);
        checks.due("a loop over lanes", 1, x::loops);
        x.cable(2, 0, 3, 0, 1);
        x.untag(2, 0, 5);
        checks.due("untagged at one end alone", 1, x::loops);
    }

    private void changesPutTags() {
        LaneTrunks x = new LaneTrunks();
        checks.due("nothing untagged", NONE, () -> x.changes(0, 5, 3, 5));
        checks.due("itself, nothing untagged", NONE, () -> x.changes(0, 5, 0, 5));
        x.untag(0, 5, 4);
        checks.due("one untagged", NONE, () -> x.changes(0, 5, 3, 5));
        checks.due("one untagged, from there", NONE, () -> x.changes(3, 5, 0, 5));
        checks.due("itself", 0, () -> x.changes(0, 5, 0, 5));
        x.untag(3, 5, 5);
        checks.due("others untagged", NONE, () -> x.changes(0, 5, 3, 5));
        x.untag(3, 5, 4);
        checks.due("no cables", NONE, () -> x.changes(0, 5, 3, 5));
        x.cable(0, 0, 1, 0, 2);
        x.cable(1, 1, 3, 0, 2);
        checks.due("two cables without tags", 4, () -> x.changes(0, 5, 3, 5));
        x.tag(1, 1, 4, true);
        checks.due("one tag", 3, () -> x.changes(3, 5, 0, 5));
        x.cable(0, 1, 3, 1, 20);
        checks.due("a dear cable", 2, () -> x.changes(0, 5, 3, 5));
        x.tag(0, 0, 4, true);
        x.tag(1, 0, 4, true);
        checks.due("the cables with tags", 1, () -> x.changes(0, 5, 3, 5));
        x.tag(3, 0, 4, true);
        checks.due("all tags", 0, () -> x.changes(0, 5, 3, 5));
        x.untag(0, 4, 4);
        checks.due("at one switch", 0, () -> x.changes(0, 4, 0, 5));
        x.untag(0, 4, 6);
        x.untag(3, 5, 6);
        checks.due("in another lane", 2, () -> x.changes(0, 4, 3, 5));
        checks.due("nothing is changed", NONE, () -> x.hops(0, 6, 3, 6));
    }

    private void changesStayInTheLane() {
        LaneTrunks x = new LaneTrunks();
        x.untag(0, 5, 4);
        x.untag(1, 5, 4);
        x.cable(0, 0, 1, 0, 1);
        x.untag(0, 0, 4);
        checks.due("untagged at one end alone", NONE, () -> x.changes(0, 5, 1, 5));
        checks.due("from there too", NONE, () -> x.changes(1, 5, 0, 5));
        x.untag(1, 0, 5);
        checks.due("another untagged at the far end", NONE, () -> x.changes(0, 5, 1, 5));
        x.tag(1, 0, 4, true);
        checks.due("tagged at the far end", NONE, () -> x.changes(0, 5, 1, 5));
        x.cable(0, 1, 1, 1, 1);
        x.untag(1, 1, 4);
        x.untag(0, 1, 5);
        x.cable(0, 2, 1, 2, 1);
        x.untag(0, 2, 5);
        x.untag(1, 2, 5);
        checks.due("they meet over lane 5", true, () -> x.meet(0, 5, 1, 5));
        checks.due("but need tags in lane 4", 2, () -> x.changes(0, 5, 1, 5));
        x.tag(1, 0, 4, false);
        x.untag(1, 0, 4);
        checks.due("untagged at both ends", 0, () -> x.changes(0, 5, 1, 5));
    }

    private void changesKeepTheTree() {
        LaneTrunks x = new LaneTrunks();
        x.untag(0, 5, 1);
        x.untag(2, 5, 1);
        x.cable(0, 0, 1, 0, 1);
        x.cable(1, 1, 2, 0, 1);
        x.cable(0, 1, 2, 1, 5);
        checks.due("tree off", 2, () -> x.changes(0, 5, 2, 5));
        x.tree(true);
        checks.due("tree on", 4, () -> x.changes(0, 5, 2, 5));
        x.untag(1, 0, 1);
        checks.due("the cable that is on is of no use", NONE, () -> x.changes(0, 5, 2, 5));
        LaneTrunks long5 = new LaneTrunks();
        for (int unit = 5; unit > 0; unit--) {
            long5.cable(unit, 0, unit - 1, 1, 20);
        }
        long5.untag(0, 5, 15);
        long5.untag(5, 5, 15);
        checks.due("the longest way", 10, () -> long5.changes(0, 5, 5, 5));
        checks.due("the longest way back", 10, () -> long5.changes(5, 5, 0, 5));
    }

    private void badPlacesAreRefused() {
        for (int bad : BAD_UNITS) {
            refused("hops(" + bad + ", 1, 0, 1)", x -> x.hops(bad, 1, 0, 1));
            refused("hops(0, 1, " + bad + ", 1)", x -> x.hops(0, 1, bad, 1));
            refused("hops(" + bad + ", 1, " + bad + ", 1)", x -> x.hops(bad, 1, bad, 1));
            refused("joined(" + bad + ", 1)", x -> x.joined(bad, 1));
        }
        for (int bad : BAD_LANES) {
            refused("hops(0, " + bad + ", 0, 1)", x -> x.hops(0, bad, 0, 1));
            refused("hops(0, 1, 0, " + bad + ")", x -> x.hops(0, 1, 0, bad));
            refused("joined(0, " + bad + ")", x -> x.joined(0, bad));
        }
    }

    private void badPortsAreRefused() {
        for (int bad : BAD_UNITS) {
            refused("meet(" + bad + ", 0, 0, 0)", x -> x.meet(bad, 0, 0, 0));
            refused("meet(0, " + bad + ", 0, 0)", x -> x.meet(0, bad, 0, 0));
            refused("meet(0, 0, " + bad + ", 0)", x -> x.meet(0, 0, bad, 0));
            refused("meet(5, 4, 0, " + bad + ")", x -> x.meet(5, 4, 0, bad));
            refused("changes(" + bad + ", 0, 0, 0)", x -> x.changes(bad, 0, 0, 0));
            refused("changes(0, " + bad + ", 0, 0)", x -> x.changes(0, bad, 0, 0));
            refused("changes(0, 0, " + bad + ", 0)", x -> x.changes(0, 0, bad, 0));
            refused("changes(5, 4, 0, " + bad + ")", x -> x.changes(5, 4, 0, bad));
        }
    }

    private void refused(String what, java.util.function.Consumer<LaneTrunks> call) {
        checks.refused(what, Checks.ILLEGAL_ARGUMENT, SettingsTest::someSettings, call);
    }
}
