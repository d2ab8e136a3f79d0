import java.nio.charset.StandardCharsets;

/** What all tests use: texts that are fed, answers and exceptions that are due, and a count of the wrong ones. */
final class Kit {
    interface Call {
        long make();
    }

    static final Class<?> ARGUMENT = IllegalArgumentException.class;
    static final Class<?> STATE = IllegalStateException.class;
    static final Class<?> INDEX = IndexOutOfBoundsException.class;

    /** Two heavy pairs, a b and c d, with light edges between them. */
    static final String SQUARE = "vertex a 2;vertex b 3;vertex c 2;vertex d 3;"
        + "edge a b 5;edge c d 4;edge b c 1;edge a d 2;parts 2;";

    private static int checks = 0;
    private static int wrong = 0;

    private Kit() {
    }

    /** Vertices a, b, c .. of weight 1. */
    static String vertices(int count) {
        StringBuilder text = new StringBuilder();
        for (int i = 0; i < count; i++) {
            text.append("vertex ").append((char) ('a' + i)).append(" 1;");
        }
        return text.toString();
    }

    /** Edges of weight 1 between the first ones of 14 vertices: a b, a c .. a n, b c .. */
    static String edges(int count) {
        StringBuilder text = new StringBuilder();
        int made = 0;
        for (int v = 0; v < 14; v++) {
            for (int w = v + 1; w < 14 && made < count; w++) {
                text.append("edge ").append((char) ('a' + v)).append(' ').append((char) ('a' + w)).append(" 1;");
                made++;
            }
        }
        return text.toString();
    }

    static int[] words(String text) {
        byte[] bytes = text.getBytes(StandardCharsets.ISO_8859_1);
        int[] words = new int[(bytes.length + 19) / 20 * 5];
        for (int i = 0; i < bytes.length; i++) {
            words[i / 4] |= (bytes[i] & 255) << (24 - i % 4 * 8);
        }
        return words;
    }

    /** The buffer must be empty, and have room for the text in pieces of 20 bytes. */
    static void feed(ShareGraph graph, String text) {
        int[] w = words(text);
        for (int i = 0; i < w.length; i += 5) {
            graph.feed(w[i], w[i + 1], w[i + 2], w[i + 3], w[i + 4]);
        }
        graph.truncate(text.length());
    }

    static ShareGraph read(String text) {
        ShareGraph graph = new ShareGraph();
        feed(graph, text);
        graph.readText();
        return graph;
    }

    static int run(ShareGraph graph, String script) {
        feed(graph, script);
        return graph.runScript();
    }

    static String reportOf(ShareGraph graph) {
        int length = graph.report();
        StringBuilder text = new StringBuilder();
        for (int i = 0; i < length; i++) {
            text.append((char) graph.reportByte(i));
        }
        return text.toString();
    }

    /** Code, position and depth of the error of a text that is read by an object that has read another one. */
    static String textError(String text) {
        ShareGraph graph = read(SQUARE);
        feed(graph, text);
        try {
            graph.readText();
        } catch (IllegalArgumentException e) {
            return errorOf(graph);
        }
        return "none";
    }

    static String scriptError(String script) {
        ShareGraph graph = read(SQUARE);
        feed(graph, script);
        try {
            graph.runScript();
        } catch (IllegalArgumentException e) {
            return errorOf(graph);
        }
        return "none";
    }

    static String errorOf(ShareGraph graph) {
        return graph.error(0) + " " + graph.error(1) + " " + graph.error(2);
    }

    static String event(ShareGraph graph, int i) {
        return graph.event(i, 0) + " " + graph.event(i, 1) + " " + graph.event(i, 2) + " " + graph.event(i, 3);
    }

    static String parts(ShareGraph graph) {
        StringBuilder text = new StringBuilder();
        int vertices = graph.setting(0);
        for (int vertex = 0; vertex < vertices; vertex++) {
            text.append(graph.partOf(vertex));
        }
        return text.toString();
    }

    static String groups(ShareGraph graph) {
        StringBuilder text = new StringBuilder();
        int vertices = graph.setting(0);
        for (int vertex = 0; vertex < vertices; vertex++) {
            text.append(graph.groupOf(vertex));
        }
        return text.toString();
    }

    /** All that a call that throws must leave alone, but for the buffer and the error. */
    static String state(ShareGraph graph) {
        StringBuilder text = new StringBuilder();
        for (int what = 0; what < 12; what++) {
            text.append(graph.setting(what)).append(' ');
        }
        text.append(parts(graph)).append(' ').append(groups(graph)).append(' ').append(graph.cut());
        int events = graph.events();
        for (int i = 0; i < events; i++) {
            text.append(", ").append(event(graph, i));
        }
        int edges = graph.setting(1);
        for (int edge = 0; edge < edges; edge++) {
            text.append(", ").append(graph.edge(edge, 0)).append(' ').append(graph.edge(edge, 1));
            text.append(' ').append(graph.edge(edge, 2));
        }
        return text.toString();
    }

    static void due(String what, long got, long want) {
        checks++;
        if (got != want) {
            wrong++;
            System.out.println(what + " answered " + got + ", due is " + want);
        }
    }

    static void due(String what, String got, String want) {
        checks++;
        if (!got.equals(want)) {
            wrong++;
            System.out.println(what + " answered " + got + ", due is " + want);
        }
    }

    static void dueD(String what, double got, double want) {
        checks++;
        if (Double.compare(got, want) != 0) {
            wrong++;
            System.out.println(what + " answered " + got + ", due is " + want);
        }
    }

    /** Exactly this class: what the machine throws by itself is often a class below the one that is due. */
    static void fails(String what, Class<?> type, Call call) {
        checks++;
        String got;
        try {
            got = String.valueOf(call.make());
        } catch (RuntimeException e) {
            got = e.getClass().getName();
        }
        if (!got.equals(type.getName())) {
            wrong++;
            System.out.println(what + " gave " + got + ", due is " + type.getName());
        }
    }

    /** The call throws, and changes nothing that can be asked for. */
    static void refuses(String what, Class<?> type, ShareGraph graph, Call call) {
        String before = state(graph);
        fails(what, type, call);
        due(what + ", the state behind it", state(graph), before);
    }

    static void end(String test) {
        System.out.println(test + ": " + checks + " checks, " + wrong + " wrong");
        if (wrong != 0) {
            System.exit(1);
        }
    }
}
