/** Promises 7 to 13: settings, vertices, edges and flows. */
public final class GraphTest {
    /** A triangle a b c and a pair d e. */
    private static final String TWO = "vertex a 5;vertex b 6;vertex c 7;vertex d 8;vertex e 9;"
        + "edge a b 3;edge c b 4;edge a c 2;edge e d 6;parts 3;slack 2;credit 4;";

    public static void main(String[] args) {
        promise7();
        promise7Pieces();
        promise8();
        promise9();
        promise10();
        promise11();
        promise12();
        promise13();
        Kit.end("GraphTest");
    }

    private static void promise7() {
        ShareGraph g = Kit.read(TWO);
        int[] settings = {5, 4, 3, 2, 4, 14, 35, 15, 0, 5, 0, 3};
        for (int what = 0; what < settings.length; what++) {
            Kit.due("7: setting " + what, g.setting(what), settings[what]);
        }
        g.shrink();
        Kit.due("7: level", g.setting(8), 1);
        Kit.due("7: groups", g.setting(9), 4);
        g.setCredit(17);
        Kit.due("7: credit", g.setting(4), 17);
        Kit.due("7: changes that can be undone", g.setting(10), 2);
        Kit.refuses("7: what 12", Kit.ARGUMENT, g, () -> g.setting(12));
        Kit.refuses("7: what -1", Kit.ARGUMENT, g, () -> g.setting(-1));
        Kit.due("7: the limit without a rest", Kit.read("vertex a 6;vertex b 6;parts 4;").setting(5), 3);
        Kit.due("7: the limit with a rest of 1", Kit.read("vertex a 7;vertex b 6;parts 4;").setting(5), 4);
        Kit.due("7: the limit with slack", Kit.read("vertex a 7;vertex b 6;parts 4;slack 99;").setting(5), 103);
        Kit.due("7: the limit without vertices", Kit.read("slack 3;").setting(5), 3);
    }

    private static void promise7Pieces() {
        Kit.due("7: pieces without edges", Kit.read("vertex a 1;vertex b 1;").setting(11), 1);
        Kit.due("7: no pieces", Kit.read("").setting(11), 0);
        String path = "vertex a 1;vertex b 1;vertex c 1;vertex d 1;vertex e 1;vertex f 1;vertex g 1;";
        Kit.due("7: a path told from its end",
            Kit.read(path + "edge f g 1;edge e f 1;edge d e 1;edge c d 1;edge b c 1;").setting(11), 6);
        Kit.due("7: the latter of two pieces", Kit.read(path + "edge a b 1;edge c g 1;edge g e 1;").setting(11), 3);
        ShareGraph g = Kit.read(path + "edge a b 1;");
        g.move(0, 1);
        Kit.due("7: pieces of the graph, not of a part", g.setting(11), 2);
    }

    private static void promise8() {
        ShareGraph g = Kit.read(TWO);
        Kit.due("8: weight", g.weight(0), 5);
        Kit.due("8: weight", g.weight(4), 9);
        Kit.refuses("8: vertex 5", Kit.INDEX, g, () -> g.weight(5));
        Kit.refuses("8: vertex -1", Kit.INDEX, g, () -> g.weight(-1));
    }

    private static void promise9() {
        ShareGraph g = Kit.read(TWO);
        Kit.due("9: first as told", g.edge(1, 0), 2);
        Kit.due("9: second as told", g.edge(1, 1), 1);
        Kit.due("9: weight", g.edge(1, 2), 4);
        Kit.due("9: not cut", g.edge(1, 3), 0);
        g.move(2, 2);
        Kit.due("9: cut", g.edge(1, 3), 1);
        Kit.due("9: the other one is not", g.edge(0, 3), 0);
        Kit.refuses("9: edge 4", Kit.INDEX, g, () -> g.edge(4, 0));
        Kit.refuses("9: edge -1", Kit.INDEX, g, () -> g.edge(-1, 9));
        Kit.refuses("9: what 4", Kit.ARGUMENT, g, () -> g.edge(3, 4));
        Kit.refuses("9: what -1", Kit.ARGUMENT, g, () -> g.edge(0, -1));
        Kit.refuses("9: both", Kit.INDEX, g, () -> g.edge(4, 4));
    }

    private static void promise10() {
        ShareGraph g = Kit.read(TWO);
        Kit.due("10: between", g.between(1, 2), 4);
        Kit.due("10: between", g.between(2, 1), 4);
        Kit.due("10: no edge", g.between(0, 3), 0);
        Kit.due("10: the same", g.between(3, 3), 0);
        Kit.refuses("10: vertex 5", Kit.INDEX, g, () -> g.between(5, 0));
        Kit.refuses("10: other 5", Kit.INDEX, g, () -> g.between(0, 5));
        Kit.refuses("10: both -1", Kit.INDEX, g, () -> g.between(-1, -1));
    }

    private static void promise11() {
        ShareGraph g = Kit.read(TWO);
        Kit.due("11: straight and round", g.flow(0, 1), 5);
        Kit.due("11: and back", g.flow(1, 0), 5);
        Kit.due("11: b c", g.flow(1, 2), 6);
        Kit.due("11: one edge", g.flow(3, 4), 6);
        Kit.due("11: no way", g.flow(0, 4), 0);
        Kit.due("11: the same", g.flow(2, 2), 0);
        Kit.refuses("11: vertex 5", Kit.INDEX, g, () -> g.flow(5, 0));
        Kit.refuses("11: vertex -1", Kit.INDEX, g, () -> g.flow(-1, 0));
        Kit.refuses("11: both", Kit.INDEX, g, () -> g.flow(5, 5));
        Kit.refuses("11: other -1", Kit.INDEX, g, () -> g.flow(0, -1));
        // The first way s a d t takes what the ways s a c t and s b d t need.
        ShareGraph h = Kit.read("vertex s 1;vertex a 1;vertex b 1;vertex c 1;vertex d 1;vertex t 1;"
            + "edge s a 2;edge a d 2;edge d t 2;edge s b 2;edge b d 1;edge a c 1;edge c t 2;");
        Kit.due("11: ways that share edges", h.flow(0, 5), 3);
        Kit.due("11: the part of a vertex is nothing to it", moved(h).flow(0, 5), 3);
        // The short way s a d t must give way: in the end more goes from d to a than the edge had room for at first.
        ShareGraph back = Kit.read("vertex s 1;vertex a 1;vertex b 1;vertex c 1;vertex d 1;vertex e 1;vertex f 1;"
            + "vertex t 1;edge s a 1;edge a d 1;edge d t 1;edge a c 2;edge c e 2;edge e t 2;edge s b 2;edge b f 2;"
            + "edge f d 2;");
        Kit.due("11: a way that turns another one back", back.flow(0, 7), 3);
        Kit.due("11: and from the other end", back.flow(7, 0), 3);
    }

    private static ShareGraph moved(ShareGraph g) {
        g.steps(99);
        return g;
    }

    private static void promise12() {
        ShareGraph g = Kit.read(TWO);
        Kit.due("12: one vertex", g.side(0, 1), 1);
        Kit.due("12: b and c", g.side(1, 0), 6);
        Kit.due("12: all that comes together", g.side(0, 3), 7);
        Kit.due("12: d and e", g.side(4, 0), 24);
        Kit.due("12: the same", g.side(1, 1), 0);
        Kit.refuses("12: vertex -1", Kit.INDEX, g, () -> g.side(-1, 0));
        Kit.refuses("12: other 5", Kit.INDEX, g, () -> g.side(0, 5));
        ShareGraph path = Kit.read("vertex a 1;vertex b 1;vertex c 1;vertex d 1;"
            + "edge a b 2;edge b c 2;edge c d 2;");
        Kit.due("12: the least one of three", path.side(0, 3), 1);
        Kit.due("12: the least one of three", path.side(3, 0), 8);
        Kit.due("12: behind a heavier edge",
            Kit.read("vertex a 1;vertex b 1;vertex c 1;edge a b 3;edge b c 2;").side(0, 2), 3);
    }

    private static void promise13() {
        Kit.due("13: no vertices", Kit.read("").leastFlow(), ShareGraph.NONE);
        Kit.due("13: one vertex", Kit.read("vertex a 1;").leastFlow(), ShareGraph.NONE);
        Kit.due("13: two vertices", Kit.read("vertex a 1;vertex b 1;").leastFlow(), 0);
        Kit.due("13: an edge", Kit.read("vertex a 1;vertex b 1;edge b a 7;").leastFlow(), 7);
        Kit.due("13: two pieces", Kit.read(TWO).leastFlow(), 0);
        Kit.due("13: a square", Kit.read(Kit.SQUARE).leastFlow(), 3);
        Kit.due("13: far from vertex 0", Kit.read("vertex a 1;vertex b 1;vertex c 1;vertex d 1;"
            + "edge a b 9;edge b c 8;edge c d 4;").leastFlow(), 4);
    }
}
