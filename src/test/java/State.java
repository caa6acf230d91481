import java.util.function.Consumer;

/**
 * All that an object holds after some settings, as a text. Reading takes the object apart, and
 * an object answers for 512 calls alone: so each part is read from an object of its own.
 */
final class State {
    private State() {
    }

    static String after(Consumer<LaneTrunks> settings) {
        StringBuilder text = new StringBuilder();
        readTree(Checks.made(settings), text);
        readPorts(Checks.made(settings), text);
        readTags(Checks.made(settings), text, 0);
        readTags(Checks.made(settings), text, 3);
        return text.toString();
    }

    private static void readTree(LaneTrunks x, StringBuilder text) {
        text.append("islands ").append(x.islands()).append(" loops ").append(x.loops());
        for (int unit = 0; unit < 6; unit++) {
            text.append("\n").append(unit).append(" root ").append(x.root(unit));
            text.append(" cost ").append(x.costOf(unit)).append(" up ").append(x.wayUp(unit));
            for (int port = 0; port < 6; port++) {
                int u = unit;
                int p = port;
                text.append(" ").append(Checks.answerOf(() -> x.isOn(u, p)));
            }
        }
        text.append("\n");
    }

    private static void readPorts(LaneTrunks x, StringBuilder text) {
        text.append("wrong ").append(x.wrong()).append(" tree ").append(x.tree(false));
        for (int unit = 0; unit < 6; unit++) {
            for (int port = 0; port < 6; port++) {
                int u = unit;
                int p = port;
                text.append("\n").append(u).append(p);
                text.append(" far ").append(x.far(u, p));
                text.append(" untagged ").append(x.untag(u, p, 0));
                text.append(" noted ").append(x.note(u, p, LaneTrunks.NONE, 0));
                text.append(" cost ").append(Checks.answerOf(() -> x.pull(u, p)));
            }
        }
        text.append("\ncables ").append(x.cable(0, 0, 1, 0, 1));
    }

    private static void readTags(LaneTrunks x, StringBuilder text, int firstUnit) {
        for (int unit = firstUnit; unit < firstUnit + 3; unit++) {
            for (int port = 0; port < 6; port++) {
                text.append("\n").append(unit).append(port).append(" tagged");
                for (int lane = 1; lane <= 15; lane++) {
                    if (x.tag(unit, port, lane, false)) {
                        text.append(" ").append(lane);
                    }
                }
            }
        }
    }
}
