/**
 * All promises together: long runs of calls, counted out by a formula, in which the class must
 * answer as the plain model does, call by call.
 */
public final class ModelTest {
    private static final int RUNS = 1000;
    private static final int CALLS = 512;
    private static final int SETTINGS_FIRST = 150;
    private static final int[] ODD =
            {-1, -2, 0, 6, 7, 16, 21, 36, Integer.MIN_VALUE, Integer.MAX_VALUE};

    private final Checks checks = new Checks("ModelTest");
    private LaneTrunks x;
    private PlainModel model;
    private String run;
    private long state;
    private int topLane;
    private int oddOneIn;

    public static void main(String[] args) {
        ModelTest test = new ModelTest();
        for (int run = 1; run <= RUNS; run++) {
            test.run(run);
        }
        test.checks.close();
    }

    private int below(int bound) {
        state = state * 6364136223846793005L + 1442695040888963407L;
        return (int) ((state >>> 33) % bound);
    }

    private int usual(int low, int high) {
        return below(oddOneIn) == 0 ? ODD[below(ODD.length)] : low + below(high - low + 1);
    }

    private void run(int number) {
        x = new LaneTrunks();
        model = new PlainModel();
        state = number;
        // Few lanes let many places join; now and then all of them, and more odd arguments.
        topLane = number % 7 == 0 ? 15 : 1 + number % 4;
        oddOneIn = number % 3 == 0 ? 20 : 400;
        for (int i = 0; i < CALLS; i++) {
            run = "run " + number + ", call " + i + ": ";
            if (i < SETTINGS_FIRST || below(5) == 0) {
                set();
            } else {
                ask();
            }
        }
    }

    private void set() {
        int u = usual(0, 5);
        int p = usual(0, 5);
        int v = usual(0, 5);
        int q = usual(0, 5);
        int l = usual(1, topLane);
        int c = usual(1, below(2) == 0 ? 4 : 20);
        boolean b = below(5) != 0;
        switch (below(20)) {
            case 0, 1 -> same("untag", () -> x.untag(u, p, b ? l : 0), () -> model.untag(u, p, b ? l : 0));
            case 2, 3, 4, 5, 6, 7, 8, 9, 10, 11 ->
                same("tag", () -> x.tag(u, p, l, b), () -> model.tag(u, p, l, b));
            case 12, 13, 14, 15 ->
                same("cable", () -> x.cable(u, p, v, q, c), () -> model.cable(u, p, v, q, c));
            case 16, 17 -> same("note", () -> x.note(u, p, v, q), () -> model.note(u, p, v, q));
            case 18 -> noteTheEnd(u, p, b);
            default -> setMore(u, p, b);
        }
    }

    private void noteTheEnd(int u, int p, boolean isToStand) {
        boolean isPort = u >= 0 && u < 6 && p >= 0 && p < 6;
        int end = isPort && isToStand ? model.far(u, p) : LaneTrunks.NONE;
        int v = end == LaneTrunks.NONE ? LaneTrunks.NONE : end / 10;
        int q = end == LaneTrunks.NONE ? usual(0, 5) : end % 10;
        same("note", () -> x.note(u, p, v, q), () -> model.note(u, p, v, q));
    }

    private void setMore(int u, int p, boolean b) {
        if (below(3) == 0) {
            same("pull", () -> x.pull(u, p), () -> model.pull(u, p));
        } else {
            boolean isOn = b && below(3) != 0;
            same("tree", () -> x.tree(isOn), () -> model.tree(isOn));
        }
    }

    private void ask() {
        switch (below(8)) {
            case 0, 1, 2 -> askOfOne();
            case 3, 4 -> askOfPlaces();
            case 5, 6 -> askOfPorts();
            default -> askOfAll();
        }
    }

    private void askOfOne() {
        int u = usual(0, 5);
        int p = usual(0, 5);
        int l = usual(1, topLane);
        switch (below(7)) {
            case 0 -> same("far", () -> x.far(u, p), () -> model.far(u, p));
            case 1 -> same("isOn", () -> x.isOn(u, p), () -> model.isOn(u, p));
            case 2 -> same("comesAs", () -> x.comesAs(u, p, l), () -> model.comesAs(u, p, l));
            case 3 -> same("oneSided", () -> x.oneSided(u, p), () -> model.oneSided(u, p));
            case 4 -> same("root", () -> x.root(u), () -> model.root(u));
            case 5 -> same("costOf", () -> x.costOf(u), () -> model.costOf(u));
            default -> same("wayUp", () -> x.wayUp(u), () -> model.wayUp(u));
        }
    }

    private void askOfPlaces() {
        int u = usual(0, 5);
        int v = usual(0, 5);
        int l = usual(1, topLane);
        int k = below(2) == 0 ? l : usual(1, topLane);
        if (below(3) == 0) {
            same("joined", () -> x.joined(u, l), () -> model.joined(u, l));
        } else {
            same("hops", () -> x.hops(u, l, v, k), () -> model.hops(u, l, v, k));
        }
    }

    private void askOfPorts() {
        int u = usual(0, 5);
        int v = usual(0, 5);
        int p = below(8) == 0 ? usual(0, 5) : portWithUntagged(u);
        int q = below(8) == 0 ? usual(0, 5) : portWithUntagged(v);
        if (below(4) == 0) {
            same("meet", () -> x.meet(u, p, v, q), () -> model.meet(u, p, v, q));
        } else {
            same("changes", () -> x.changes(u, p, v, q), () -> model.changes(u, p, v, q));
        }
    }

    private int portWithUntagged(int unit) {
        int first = below(6);
        for (int i = 0; i < 6 && unit >= 0 && unit < 6; i++) {
            if (model.hasUntagged(unit, (first + i) % 6)) {
                return (first + i) % 6;
            }
        }
        return first;
    }

    private void askOfAll() {
        switch (below(3)) {
            case 0 -> same("wrong", x::wrong, model::wrong);
            case 1 -> same("islands", x::islands, model::islands);
            default -> same("loops", x::loops, model::loops);
        }
    }

    private void same(String name, Checks.Call call, Checks.Call modelCall) {
        checks.due(run + name, Checks.answerOf(modelCall), call);
    }
}
