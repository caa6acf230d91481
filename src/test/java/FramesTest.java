/** Promises 16 to 21: where frames come, islands, loops and changes. */
public final class FramesTest {
    private static final int NONE = LaneTrunks.NONE;

    private final Checks checks = new Checks("FramesTest");

    public static void main(String[] args) {
        FramesTest test = new FramesTest();
        test.hopsAlongAChain();
        test.hopsTakeTheShortestWay();
        test.hopsOverChangingLanes();
        test.meetNeedsUntaggedLanes();
        test.joinedCountsPlaces();
        test.islandsOfUsedPlaces();
        test.loopsOfWays();
        test.loopsOverOneCable();
        test.changesPutTags();
        test.changesStayInTheLane();
        test.changesKeepTheTree();
        test.changesNeedTheSameLane();
        test.nothingIsSet();
        test.hopsOverManyLanes();
        test.allPlacesInOneIsland();
        test.manyLoops();
        test.bothEndsMustCarry();
        test.eachPlaceIsUsedByItsPorts();
        test.checks.close();
    }

    private static void tagBoth(LaneTrunks x, int unit, int port, int lane) {
        int end = x.far(unit, port);
        x.tag(unit, port, lane, true);
        x.tag(end / 10, end % 10, lane, true);
    }

    private static LaneTrunks chain(int lane) {
        LaneTrunks x = new LaneTrunks();
        for (int unit = 0; unit < 5; unit++) {
            x.cable(unit, 0, unit + 1, 1, 1);
            tagBoth(x, unit, 0, lane);
        }
        return x;
    }

    private void hopsAlongAChain() {
        LaneTrunks x = chain(15);
        for (int from = 0; from < 6; from++) {
            for (int to = 0; to < 6; to++) {
                int f = from;
                int t = to;
                checks.due("hops(" + f + ", 15, " + t + ", 15)", Math.abs(f - t),
                        () -> x.hops(f, 15, t, 15));
            }
        }
        checks.due("hops to a place that is not used", NONE, () -> x.hops(0, 15, 0, 1));
        checks.due("hops from a place that is not used", NONE, () -> x.hops(0, 1, 1, 1));
        checks.due("hops to the same, not used", 0, () -> x.hops(3, 1, 3, 1));
        x.tag(3, 1, 15, false);
        checks.due("hops where it is dropped", NONE, () -> x.hops(0, 15, 5, 15));
        checks.due("hops before that", 2, () -> x.hops(0, 15, 2, 15));
        checks.due("hops behind that", 2, () -> x.hops(5, 15, 3, 15));
    }

    private void hopsTakeTheShortestWay() {
        LaneTrunks x = chain(2);
        x.cable(0, 5, 4, 5, 20);
        tagBoth(x, 0, 5, 2);
        checks.due("hops over the dear cable", 2, () -> x.hops(0, 2, 5, 2));
        checks.due("hops the other way", 2, () -> x.hops(0, 2, 3, 2));
        x.tree(true);
        checks.due("hops with that cable off", 5, () -> x.hops(0, 2, 5, 2));
    }

    private void hopsOverChangingLanes() {
        LaneTrunks x = new LaneTrunks();
        x.cable(0, 0, 1, 0, 1);
        x.cable(1, 1, 0, 1, 1);
        x.untag(0, 0, 1);
        x.untag(1, 0, 2);
        x.untag(1, 1, 2);
        x.untag(0, 1, 3);
        checks.due("hops into another lane", 1, () -> x.hops(0, 1, 1, 2));
        checks.due("hops not into the same", NONE, () -> x.hops(0, 1, 1, 1));
        checks.due("hops back in a third lane", 2, () -> x.hops(0, 1, 0, 3));
        checks.due("hops from there", 2, () -> x.hops(0, 3, 0, 1));
    }

    private void meetNeedsUntaggedLanes() {
        LaneTrunks x = chain(4);
        checks.due("meet, nothing untagged", false, () -> x.meet(0, 5, 5, 5));
        checks.due("meet itself, nothing untagged", false, () -> x.meet(0, 5, 0, 5));
        x.untag(0, 5, 4);
        checks.due("meet, one untagged", false, () -> x.meet(0, 5, 5, 5));
        checks.due("meet, one untagged, from there", false, () -> x.meet(5, 5, 0, 5));
        checks.due("meet itself", true, () -> x.meet(0, 5, 0, 5));
        x.untag(5, 5, 4);
        checks.due("meet", true, () -> x.meet(0, 5, 5, 5));
        checks.due("meet a tagged one", false, () -> x.meet(0, 5, 5, 1));
        x.untag(0, 4, 4);
        checks.due("meet at one switch", true, () -> x.meet(0, 4, 0, 5));
        x.untag(0, 4, 5);
        checks.due("meet in another lane", false, () -> x.meet(0, 4, 0, 5));
        x.untag(5, 5, 5);
        checks.due("meet in another lane", false, () -> x.meet(0, 4, 5, 5));
        x.cable(4, 4, 5, 4, 1);
        x.untag(4, 4, 4);
        x.untag(5, 4, 5);
        checks.due("meet over changing lanes", true, () -> x.meet(0, 5, 5, 5));
        x.tree(true);
        checks.due("meet with that cable off", false, () -> x.meet(0, 5, 5, 5));
    }

    private void joinedCountsPlaces() {
        LaneTrunks x = chain(4);
        checks.due("joined, all", 6, () -> x.joined(3, 4));
        checks.due("joined, not used", 1, () -> x.joined(3, 5));
        x.untag(0, 5, 7);
        x.untag(5, 5, 8);
        x.cable(0, 5, 5, 5, 1);
        checks.due("joined over another cable", 2, () -> x.joined(0, 7));
        x.tag(2, 0, 4, false);
        checks.due("joined, cut", 3, () -> x.joined(0, 4));
        checks.due("joined, cut", 3, () -> x.joined(5, 4));
        checks.due("joined twice over", 3, () -> x.joined(5, 4));
        x.pull(4, 0);
        checks.due("joined, pulled", 1, () -> x.joined(5, 4));
    }

    private void islandsOfUsedPlaces() {
        LaneTrunks x = new LaneTrunks();
        x.untag(0, 0, 1);
        checks.due("one used place", 1, x::islands);
        x.tag(0, 1, 1, true);
        checks.due("the same place", 1, x::islands);
        x.tag(0, 1, 15, true);
        x.tag(5, 5, 15, true);
        checks.due("three places", 3, x::islands);
        x.cable(0, 1, 5, 5, 1);
        checks.due("two of them joined", 2, x::islands);
        x.tag(0, 1, 15, false);
        checks.due("one no more", 2, x::islands);
        x.untag(0, 0, 0);
        checks.due("the lane is carried yet", 2, x::islands);
        x.tag(0, 1, 1, false);
        checks.due("one left", 1, x::islands);
        LaneTrunks all = new LaneTrunks();
        for (int unit = 0; unit < 6; unit++) {
            for (int lane = 1; lane <= 15; lane++) {
                all.tag(unit, lane % 6, lane, true);
            }
        }
        checks.due("all places, no cables", 90, all::islands);
        checks.due("no loops there", 0, all::loops);
    }

    private void loopsOfWays() {
        LaneTrunks x = chain(3);
        checks.due("a chain", 0, x::loops);
        x.cable(0, 5, 5, 5, 20);
        checks.due("a ring without the lane", 0, x::loops);
        x.tag(0, 5, 3, true);
        checks.due("a ring, open at one end", 0, x::loops);
        x.tag(5, 5, 3, true);
        checks.due("a ring", 1, x::loops);
        x.cable(0, 4, 1, 4, 20);
        tagBoth(x, 0, 4, 3);
        checks.due("a ring and a second cable", 2, x::loops);
        checks.due("one island", 1, x::islands);
        x.tree(true);
        checks.due("the tree cuts them", 0, x::loops);
        x.tree(false);
        checks.due("off again", 2, x::loops);
    }

    private void loopsOverOneCable() {
        LaneTrunks x = new LaneTrunks();
        x.cable(0, 0, 1, 0, 1);
        tagBoth(x, 0, 0, 1);
        tagBoth(x, 0, 0, 2);
        x.untag(0, 0, 3);
        x.untag(1, 0, 4);
        checks.due("three ways of one cable", 0, x::loops);
        checks.due("three islands", 3, x::islands);
        x.cable(0, 1, 1, 1, 1);
        x.untag(0, 1, 1);
        x.untag(1, 1, 2);
        checks.due("two islands joined", 2, x::islands);
        checks.due("and no loop", 0, x::loops);
        x.cable(0, 2, 1, 2, 1);
        x.untag(0, 2, 2);
        x.untag(1, 2, 1);
        checks.due("a loop over lanes", 1, x::loops);
        x.cable(2, 0, 3, 0, 1);
        x.untag(2, 0, 5);
        checks.due("untagged at one end alone", 1, x::loops);
    }

    private void changesPutTags() {
        LaneTrunks x = new LaneTrunks();
        checks.due("nothing untagged", NONE, () -> x.changes(0, 5, 3, 5));
        checks.due("itself, nothing untagged", NONE, () -> x.changes(0, 5, 0, 5));
        x.untag(0, 5, 4);
        checks.due("one untagged", NONE, () -> x.changes(0, 5, 3, 5));
        checks.due("one untagged, from there", NONE, () -> x.changes(3, 5, 0, 5));
        checks.due("itself", 0, () -> x.changes(0, 5, 0, 5));
        x.untag(3, 5, 5);
        checks.due("others untagged", NONE, () -> x.changes(0, 5, 3, 5));
        x.untag(3, 5, 4);
        checks.due("no cables", NONE, () -> x.changes(0, 5, 3, 5));
        x.cable(0, 0, 1, 0, 2);
        x.cable(1, 1, 3, 0, 2);
        checks.due("two cables without tags", 4, () -> x.changes(0, 5, 3, 5));
        x.tag(1, 1, 4, true);
        checks.due("one tag", 3, () -> x.changes(3, 5, 0, 5));
        x.cable(0, 1, 3, 1, 20);
        checks.due("a dear cable", 2, () -> x.changes(0, 5, 3, 5));
        x.tag(0, 0, 4, true);
        x.tag(1, 0, 4, true);
        checks.due("the cables with tags", 1, () -> x.changes(0, 5, 3, 5));
        x.tag(3, 0, 4, true);
        checks.due("all tags", 0, () -> x.changes(0, 5, 3, 5));
        x.untag(0, 4, 4);
        checks.due("at one switch", 0, () -> x.changes(0, 4, 0, 5));
        x.untag(0, 4, 6);
        x.untag(3, 5, 6);
        checks.due("in another lane", 2, () -> x.changes(0, 4, 3, 5));
        checks.due("nothing is changed", NONE, () -> x.hops(0, 6, 3, 6));
    }

    private void changesStayInTheLane() {
        LaneTrunks x = new LaneTrunks();
        x.untag(0, 5, 4);
        x.untag(1, 5, 4);
        x.cable(0, 0, 1, 0, 1);
        x.untag(0, 0, 4);
        checks.due("untagged at one end alone", NONE, () -> x.changes(0, 5, 1, 5));
        checks.due("from there too", NONE, () -> x.changes(1, 5, 0, 5));
        x.untag(1, 0, 5);
        checks.due("another untagged at the far end", NONE, () -> x.changes(0, 5, 1, 5));
        x.tag(1, 0, 4, true);
        checks.due("tagged at the far end", NONE, () -> x.changes(0, 5, 1, 5));
        x.cable(0, 1, 1, 1, 1);
        x.untag(1, 1, 4);
        x.untag(0, 1, 5);
        x.cable(0, 2, 1, 2, 1);
        x.untag(0, 2, 5);
        x.untag(1, 2, 5);
        checks.due("they meet over lane 5", true, () -> x.meet(0, 5, 1, 5));
        checks.due("but need tags in lane 4", 2, () -> x.changes(0, 5, 1, 5));
        x.tag(1, 0, 4, false);
        x.untag(1, 0, 4);
        checks.due("untagged at both ends", 0, () -> x.changes(0, 5, 1, 5));
    }

    private void changesKeepTheTree() {
        LaneTrunks x = new LaneTrunks();
        x.untag(0, 5, 1);
        x.untag(2, 5, 1);
        x.cable(0, 0, 1, 0, 1);
        x.cable(1, 1, 2, 0, 1);
        x.cable(0, 1, 2, 1, 5);
        checks.due("tree off", 2, () -> x.changes(0, 5, 2, 5));
        x.tree(true);
        checks.due("tree on", 4, () -> x.changes(0, 5, 2, 5));
        x.untag(1, 0, 1);
        checks.due("the cable that is on is of no use", NONE, () -> x.changes(0, 5, 2, 5));
        LaneTrunks long5 = new LaneTrunks();
        for (int unit = 5; unit > 0; unit--) {
            long5.cable(unit, 0, unit - 1, 1, 20);
        }
        long5.untag(0, 5, 15);
        long5.untag(5, 5, 15);
        checks.due("the longest way", 10, () -> long5.changes(0, 5, 5, 5));
        checks.due("the longest way back", 10, () -> long5.changes(5, 5, 0, 5));
    }

    private void changesNeedTheSameLane() {
        LaneTrunks x = chain(4);
        checks.due("none untagged, with cables", NONE, () -> x.changes(0, 5, 5, 5));
        checks.due("none untagged, at one switch", NONE, () -> x.changes(0, 5, 0, 4));
        x.untag(0, 5, 4);
        checks.due("none there", NONE, () -> x.changes(0, 5, 5, 5));
        checks.due("none here", NONE, () -> x.changes(5, 5, 0, 5));
        checks.due("none there, at one switch", NONE, () -> x.changes(0, 5, 0, 4));
        x.untag(0, 4, 5);
        checks.due("two lanes at one switch", NONE, () -> x.changes(0, 4, 0, 5));
        x.untag(5, 5, 4);
        checks.due("all tags are there", 0, () -> x.changes(0, 5, 5, 5));
        checks.due("two lanes", NONE, () -> x.changes(0, 4, 5, 5));
        x.tag(2, 0, 4, false);
        checks.due("one tag is missing", 1, () -> x.changes(0, 5, 5, 5));
        x.pull(2, 0);
        checks.due("one cable is missing", NONE, () -> x.changes(0, 5, 5, 5));
        checks.due("before the missing cable", 0, () -> x.changes(0, 5, 0, 5));
    }

    private void nothingIsSet() {
        LaneTrunks x = new LaneTrunks();
        for (int unit = 0; unit < 6; unit++) {
            int u = unit;
            int v = (unit + 1) % 6;
            checks.due("new: hops to the same", 0, () -> x.hops(u, 15, u, 15));
            checks.due("new: hops to another lane", NONE, () -> x.hops(u, 15, u, 14));
            checks.due("new: hops to another switch", NONE, () -> x.hops(u, 1, v, 1));
            checks.due("new: joined", 1, () -> x.joined(u, 15));
            checks.due("new: meet itself", false, () -> x.meet(u, 0, u, 0));
            checks.due("new: meet", false, () -> x.meet(u, 0, v, 0));
            checks.due("new: changes to itself", NONE, () -> x.changes(u, 0, u, 0));
            checks.due("new: changes", NONE, () -> x.changes(u, 0, v, 0));
        }
        x.cable(0, 0, 1, 0, 1);
        checks.due("a cable alone: islands", 0, x::islands);
        checks.due("a cable alone: loops", 0, x::loops);
        checks.due("a cable alone: hops", NONE, () -> x.hops(0, 1, 1, 1));
        checks.due("a cable alone: joined", 1, () -> x.joined(1, 15));
    }

    private static void tagChain(LaneTrunks x, int lanes) {
        for (int unit = 0; unit < 5; unit++) {
            x.cable(unit, 0, unit + 1, 1, 1);
            for (int lane = 1; lane <= lanes; lane++) {
                tagBoth(x, unit, 0, lane);
            }
        }
    }

    private static int freePort(LaneTrunks x, int unit) {
        int port = 0;
        while (x.far(unit, port) != NONE) {
            port++;
        }
        return port;
    }

    private static void turn(LaneTrunks x, int unit, int lane, int otherUnit, int otherLane) {
        int port = freePort(x, unit);
        int otherPort = freePort(x, otherUnit);
        x.cable(unit, port, otherUnit, otherPort, 2);
        x.untag(unit, port, lane);
        x.untag(otherUnit, otherPort, otherLane);
    }

    // Nine lanes along the chain, from each to the next over a cable at the far end of the chain.
    private void hopsOverManyLanes() {
        LaneTrunks x = new LaneTrunks();
        tagChain(x, 9);
        for (int lane = 1; lane < 9; lane++) {
            boolean isUp = lane % 2 == 1;
            turn(x, isUp ? 5 : 0, lane, isUp ? 4 : 1, lane + 1);
        }
        for (int lane = 1; lane <= 9; lane++) {
            int l = lane;
            int end = lane % 2 == 1 ? 5 : 0;
            checks.due("hops to the end of lane " + l, 5 * l, () -> x.hops(0, 1, end, l));
            checks.due("hops back from there", 5 * l, () -> x.hops(end, l, 0, 1));
        }
        checks.due("hops to the last turn", 41, () -> x.hops(0, 1, 1, 9));
        checks.due("hops behind the last turn", 42, () -> x.hops(0, 1, 0, 9));
        checks.due("hops into a lane without a turn", NONE, () -> x.hops(0, 1, 5, 10));
        checks.due("joined, all nine lanes", 54, () -> x.joined(3, 5));
        checks.due("one island", 1, x::islands);
        x.tree(true);
        checks.due("hops with the turns off", NONE, () -> x.hops(0, 1, 4, 2));
    }

    // 18 cables at all 36 ports: 89 ways join all 90 places, and no way is one too many.
    private static LaneTrunks allPlaces() {
        LaneTrunks x = new LaneTrunks();
        tagChain(x, 15);
        x.tag(4, 0, 14, false);
        x.tag(4, 0, 15, false);
        x.untag(4, 0, 14);
        x.tag(5, 1, 14, false);
        x.tag(5, 1, 15, false);
        x.untag(5, 1, 15);
        int port = freePort(x, 4);
        turn(x, 4, 1, 5, 2);
        tagBoth(x, 4, port, 14);
        tagBoth(x, 4, port, 15);
        int[] from = {0, 0, 0, 0, 0, 1, 1, 1, 2, 3, 3, 3};
        int[] to = {5, 5, 5, 5, 1, 2, 2, 2, 3, 4, 4, 4};
        for (int i = 0; i < from.length; i++) {
            turn(x, from[i], 2 + i, to[i], 3 + i);
        }
        return x;
    }

    private void allPlacesInOneIsland() {
        LaneTrunks x = allPlaces();
        for (int unit = 0; unit < 6; unit++) {
            int u = unit;
            checks.due("joined, all places, lane 1", 90, () -> x.joined(u, 1));
            checks.due("joined, all places, lane 8", 90, () -> x.joined(u, 8));
            checks.due("joined, all places, lane 15", 90, () -> x.joined(u, 15));
        }
        checks.due("one island of all places", 1, x::islands);
        checks.due("no way too many", 0, x::loops);
        int end = x.far(0, 5);
        x.tag(0, 5, 15, true);
        checks.due("one way more at one end alone", 0, x::loops);
        x.tag(end / 10, end % 10, 15, true);
        checks.due("one way more", 1, x::loops);
        checks.due("one island yet", 1, x::islands);
        LaneTrunks less = allPlaces();
        less.pull(0, 5);
        checks.due("one way less", 2, less::islands);
        checks.due("one way less", 0, less::loops);
        checks.due("two islands", 90, () -> less.joined(0, 1) + less.joined(0, 15));
    }

    // Three pairs of switches, six cables each, thirteen lanes over each cable.
    private void manyLoops() {
        LaneTrunks x = new LaneTrunks();
        for (int unit = 0; unit < 6; unit += 2) {
            for (int port = 0; port < 6; port++) {
                x.cable(unit, port, unit + 1, port, 20);
                // Not by tagBoth: with its look at the far end, these would be over 512 calls.
                for (int lane = 1; lane <= 12; lane++) {
                    x.tag(unit, port, lane, true);
                    x.tag(unit + 1, port, lane, true);
                }
                x.untag(unit, port, 15);
                x.untag(unit + 1, port, 15);
            }
        }
        checks.due("18 times 13 ways, 78 places, 39 islands", 195, x::loops);
        checks.due("39 islands", 39, x::islands);
        x.tree(true);
        checks.due("one cable of each pair is on", 0, x::loops);
        checks.due("39 islands yet", 39, x::islands);
        checks.due("two places each", 2, () -> x.joined(5, 15));
    }

    private void bothEndsMustCarry() {
        LaneTrunks x = new LaneTrunks();
        x.cable(0, 0, 1, 0, 1);
        x.tag(0, 0, 9, true);
        checks.due("tagged here alone: hops", NONE, () -> x.hops(0, 9, 1, 9));
        checks.due("tagged here alone: joined", 1, () -> x.joined(0, 9));
        checks.due("tagged here alone: no way, no loop", 0, x::loops);
        x.tag(1, 1, 9, true);
        checks.due("tagged at another port there: hops", NONE, () -> x.hops(0, 9, 1, 9));
        checks.due("tagged at another port there: islands", 2, x::islands);
        x.untag(1, 0, 9);
        checks.due("untagged there: hops", NONE, () -> x.hops(0, 9, 1, 9));
        checks.due("untagged there: hops from there", NONE, () -> x.hops(1, 9, 0, 9));
        checks.due("untagged there: islands", 2, x::islands);
        checks.due("untagged there alone: no way, no loop", 0, x::loops);
        x.untag(0, 0, 8);
        checks.due("untagged at both ends: hops", 1, () -> x.hops(1, 9, 0, 8));
        checks.due("untagged at both ends: islands", 2, x::islands);
        checks.due("untagged at both ends: joined", 1, () -> x.joined(0, 9));
        checks.due("no loops of all this", 0, x::loops);
    }

    private void eachPlaceIsUsedByItsPorts() {
        for (int slot = 0; slot < 36; slot++) {
            int unit = slot / 6;
            int port = slot % 6;
            LaneTrunks x = new LaneTrunks();
            x.untag(unit, port, 15);
            checks.due("untagged alone", 1, x::islands);
            x.untag(unit, port, 1);
            checks.due("untagged in its place", 1, x::islands);
            x.tag(unit, port, 15, true);
            checks.due("and tagged", 2, x::islands);
            x.untag(unit, port, 0);
            checks.due("tagged alone", 1, x::islands);
            x.tag(unit, port, 15, false);
            checks.due("nothing any more", 0, x::islands);
            checks.due("no loops without cables", 0, x::loops);
        }
    }
}
