/** Two objects that went the same way, one of which makes a call more: behind it all that they hold must be the same. */
final class Twins {
    interface Scene {
        ShareGraph make();
    }

    interface On {
        long make(ShareGraph graph);
    }

    interface OnOne {
        long make(ShareGraph graph, int number);
    }

    interface OnTwo {
        long make(ShareGraph graph, int first, int second);
    }

    /** Those from 32 on would be numbers of something if only their last bits were looked at. */
    private static final int[] ODD = {Integer.MIN_VALUE, -65536, -32, -2, -1, 32, 64, 256, 65536, 1 << 30, Integer.MAX_VALUE};

    private Twins() {
    }

    /** The call throws exactly this, and changes nothing. */
    static void refuses(String what, Class<?> type, Scene scene, On call) {
        ShareGraph graph = scene.make();
        Kit.fails(what, type, () -> call.make(graph));
        Kit.due(what + " changes nothing", all(graph), all(scene.make()));
    }

    /** The call answers this, and changes nothing. */
    static void answers(String what, long due, Scene scene, On call) {
        ShareGraph graph = scene.make();
        Kit.due(what, call.make(graph), due);
        Kit.due(what + " changes nothing", all(graph), all(scene.make()));
    }

    /** The call answers something, and changes nothing. */
    static void asks(String what, Scene scene, On call) {
        ShareGraph graph = scene.make();
        call.make(graph);
        Kit.due(what + " changes nothing", all(graph), all(scene.make()));
    }

    /** All numbers from least to most are taken, and none beside them. */
    static void bounds(String what, Class<?> type, Scene scene, int least, int most, OnOne call) {
        for (int number : new int[] {least, most}) {
            if (least <= most) {
                asks(what + " of " + number, scene, g -> call.make(g, number));
            }
        }
        refuses(what + " of " + (least - 1), type, scene, g -> call.make(g, least - 1));
        refuses(what + " of " + (most + 1), type, scene, g -> call.make(g, most + 1));
        for (int number : ODD) {
            if (number < least || number > most) {
                refuses(what + " of " + number, type, scene, g -> call.make(g, number));
            }
        }
    }

    /** Both are numbers from 0 on, so many of each; the first one is looked at first. */
    static void bounds(String what, Class<?> firstType, int firsts, Class<?> secondType, int seconds, Scene scene,
        OnTwo call) {
        bounds(what + ", the first number", firstType, scene, 0, firsts - 1, (g, n) -> call.make(g, n, 0));
        bounds(what + ", the second number", secondType, scene, 0, seconds - 1, (g, n) -> call.make(g, 0, n));
        bounds(what + ", the first number with a last second one", firstType, scene, 0, firsts - 1,
            (g, n) -> call.make(g, n, seconds - 1));
        refuses(what + ", both too large", firstType, scene, g -> call.make(g, firsts, seconds));
        refuses(what + ", both too small", firstType, scene, g -> call.make(g, -1, -1));
        refuses(what + ", too large and too small", firstType, scene, g -> call.make(g, firsts, -1));
    }

    /** All that an object holds; the object is used up by it, as what is kept for undo is told by undoing it. */
    static String all(ShareGraph g) {
        StringBuilder text = new StringBuilder();
        graph(g, text);
        for (int i = 0; i < 3; i++) {
            text.append(" error ").append(g.error(i));
        }
        text.append(" report ").append(oldReport(g)).append(Kit.reportOf(g));
        text.append(" buffer ").append(bufferLength(g));
        levels(g, text);
        for (int left = g.undo(); left != ShareGraph.NONE; left = g.undo()) {
            text.append(" undo ").append(left);
            shares(g, text);
        }
        saved(g, text);
        script(g, text);
        return text.toString();
    }

    private static void graph(ShareGraph g, StringBuilder text) {
        for (int what = 0; what < 12; what++) {
            text.append(' ').append(g.setting(what));
        }
        int vertices = g.setting(0);
        for (int vertex = 0; vertex < vertices; vertex++) {
            text.append(" weight ").append(g.weight(vertex));
        }
        int edges = g.setting(1);
        for (int edge = 0; edge < edges; edge++) {
            text.append(" edge ").append(g.edge(edge, 0)).append(' ').append(g.edge(edge, 1));
            text.append(' ').append(g.edge(edge, 2));
        }
        shares(g, text);
    }

    private static void shares(ShareGraph g, StringBuilder text) {
        text.append(" parts ").append(Kit.parts(g)).append(" groups ").append(Kit.groups(g));
        text.append(" level ").append(g.setting(8)).append(" credit ").append(g.setting(4)).append(" cut ").append(g.cut());
        int events = g.events();
        for (int i = 0; i < events; i++) {
            text.append(" event ").append(Kit.event(g, i));
        }
    }

    private static String oldReport(ShareGraph g) {
        StringBuilder text = new StringBuilder();
        for (int i = 0; i < 800; i++) {
            try {
                text.append((char) g.reportByte(i));
            } catch (IndexOutOfBoundsException e) {
                break;
            }
        }
        return text.toString();
    }

    private static int bufferLength(ShareGraph g) {
        int length;
        try {
            length = g.feed(0, 0, 0, 0, 0) - 20;
        } catch (IllegalStateException e) {
            length = 800;
            while (!canTruncate(g, length)) {
                length--;
            }
        }
        return g.truncate(length);
    }

    private static boolean canTruncate(ShareGraph g, int length) {
        try {
            return g.truncate(length) == length;
        } catch (IllegalArgumentException e) {
            return false;
        }
    }

    private static void levels(ShareGraph g, StringBuilder text) {
        while (g.setting(8) > 0) {
            g.grow();
            text.append(" grown ").append(Kit.groups(g));
        }
    }

    private static void saved(ShareGraph g, StringBuilder text) {
        try {
            text.append(" restored ").append(g.restore());
            graph(g, text);
        } catch (IllegalStateException e) {
            text.append(" nothing saved");
        }
    }

    private static void script(ShareGraph g, StringBuilder text) {
        try {
            text.append(" script ").append(g.runScript());
        } catch (IllegalArgumentException e) {
            text.append(" script error ").append(Kit.errorOf(g));
        }
        shares(g, text);
    }
}
