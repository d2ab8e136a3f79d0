/** Term 5, flows, sentence by sentence; with promises 11 to 13 and 42. */
public final class Term5Test {
    private static final int NONE = ShareGraph.NONE;

    public static void main(String[] args) {
        noWay();
        oneWay();
        severalWays();
        theSame();
        bothDirections();
        turnedBack();
        sideOfAll();
        sideIsLeast();
        sideWithoutAWay();
        sideOfMany();
        mostOfAll();
        allSets();
        leastFlow();
        partsAreNothing();
        placeApart();
        placeApartOfMany();
        placeApartWhen();
        Kit.end("Term5Test");
    }

    /** Without edges that lead from one to the other the sum is 0. */
    private static void noWay() {
        ShareGraph g = Kit.read(Kit.vertices(4) + "edge a b 5;edge c d 6;");
        Kit.due("promise 11: no way", g.flow(0, 2) + g.flow(1, 3) + g.flow(3, 0), 0);
        Kit.due("promise 11: a b", g.flow(0, 1), 5);
        Kit.due("promise 11: c d", g.flow(2, 3), 6);
        Kit.due("promise 11: no edges", Kit.read(Kit.vertices(2)).flow(0, 1), 0);
    }

    private static void oneWay() {
        Kit.due("promise 11: an edge of 1", Kit.read(Kit.vertices(2) + "edge a b 1;").flow(0, 1), 1);
        Kit.due("promise 11: an edge of 99", Kit.read(Kit.vertices(2) + "edge b a 99;").flow(0, 1), 99);
        ShareGraph g = Kit.read(Kit.vertices(5) + "edge a b 9;edge b c 4;edge c d 7;edge d e 6;");
        Kit.due("promise 11: the least one of the way", g.flow(0, 4), 4);
        Kit.due("promise 11: a part of the way", g.flow(2, 4), 6);
        Kit.due("promise 11: a neighbour", g.flow(0, 1), 9);
    }

    private static void severalWays() {
        ShareGraph g = Kit.read(Kit.vertices(4) + "edge a b 3;edge b d 5;edge a c 7;edge c d 2;edge a d 1;");
        Kit.due("promise 11: 3 and 2 and 1", g.flow(0, 3), 6);
        Kit.due("promise 11: b to c, 3 by a and 3 by d", g.flow(1, 2), 6);
        Kit.due("promise 11: all of c", g.flow(2, 0), 9);
    }

    /** Promises 11 and 12: 0 if they are the same. */
    private static void theSame() {
        ShareGraph g = Kit.read(Kit.vertices(14) + Kit.edges(40));
        for (int vertex = 0; vertex < 14; vertex++) {
            Kit.due("promise 11: the same", g.flow(vertex, vertex), 0);
            Kit.due("promise 12: the same", g.side(vertex, vertex), 0);
        }
        Kit.due("promise 11: one vertex", Kit.read("vertex a 9;").flow(0, 0), 0);
    }

    private static void bothDirections() {
        ShareGraph g = Kit.read(Kit.vertices(6) + "edge a b 3;edge c b 2;edge c d 5;edge e d 4;edge f e 1;edge a f 2;edge a d 1;");
        for (int v = 0; v < 6; v++) {
            for (int w = 0; w < v; w++) {
                Kit.due("promise 11: from " + v + " to " + w + " and back", g.flow(v, w), g.flow(w, v));
                Kit.due("promise 12: the sides have nothing together", g.side(v, w) & g.side(w, v), 0);
            }
        }
    }

    /** The shortest way must give way to two longer ones. */
    private static void turnedBack() {
        ShareGraph g = Kit.read(Kit.vertices(6) + "edge a b 1;edge a c 1;edge b c 1;edge b d 1;edge c e 1;edge d f 1;"
            + "edge e f 1;edge c d 1;");
        Kit.due("promise 11: two ways", g.flow(0, 5), 2);
        // the way a b e h, found first, is turned: in the end more goes from e to b than the edge had room for
        ShareGraph more = Kit.read(Kit.vertices(8) + "edge a b 1;edge b e 1;edge e h 1;edge b d 2;edge d g 2;edge g h 2;"
            + "edge a c 2;edge c f 2;edge f e 2;");
        Kit.due("promise 11: more than the edge", more.flow(0, 7), 3);
        ShareGraph h = Kit.read(Kit.vertices(4) + "edge a b 1;edge b c 1;edge c d 1;edge a c 1;edge b d 1;");
        Kit.due("promise 11: a b d and a c d", h.flow(0, 3), 2);
        Kit.due("promise 12: a alone", h.side(0, 3), 1);
    }

    /** Promise 12: it has the first, but not the second one. */
    private static void sideOfAll() {
        ShareGraph g = Kit.read(Kit.vertices(3) + "edge a b 3;edge b c 2;");
        Kit.due("promise 12: a and b from c", g.side(0, 2), 3);
        Kit.due("promise 12: b from c", g.side(1, 2), 3);
        Kit.due("promise 12: c from a", g.side(2, 0), 4);
        Kit.due("promise 12: a from b", g.side(0, 1), 1);
        Kit.due("promise 12: b from a", g.side(1, 0), 6);
    }

    /** The one that is contained in all others. */
    private static void sideIsLeast() {
        ShareGraph g = Kit.read(Kit.vertices(5) + "edge a b 2;edge b c 2;edge c d 2;edge d e 2;");
        for (int vertex = 0; vertex < 4; vertex++) {
            Kit.due("promise 12: the first edge of several alike", g.side(vertex, 4), (1 << (vertex + 1)) - 1);
        }
        Kit.due("promise 12: from the other end", g.side(4, 0), 16);
        ShareGraph loose = Kit.read(Kit.vertices(4) + "edge a b 3;edge c d 1;");
        Kit.due("promise 12: without those that it does not need", loose.side(0, 2), 3);
        Kit.due("promise 12: without those that it does not need", loose.side(2, 1), 12);
    }

    private static void sideWithoutAWay() {
        ShareGraph g = Kit.read(Kit.vertices(14) + "edge a n 1;edge b m 1;");
        Kit.due("promise 12: a and n", g.side(0, 1), 8193);
        Kit.due("promise 12: n and a", g.side(13, 12), 8193);
        Kit.due("promise 12: c alone", g.side(2, 0), 4);
        Kit.due("promise 12: a vertex without edges", g.side(5, 6), 32);
    }

    private static void sideOfMany() {
        ShareGraph g = Kit.read(Kit.vertices(14) + Kit.edges(13));
        Kit.due("promise 12: a star, its middle", g.side(0, 13), 8191);
        Kit.due("promise 12: a star, its last leaf", g.side(13, 0), 8192);
        Kit.due("promise 12: a star, two leaves", g.side(1, 2), 2);
    }

    private static void mostOfAll() {
        ShareGraph g = Kit.read(Kit.vertices(9) + Kit.edges(40).replaceAll("edge \\w [j-n] 1;", "").replace(" 1;", " 99;"));
        Kit.due("promise 11: straight, and by 7 others", g.flow(0, 1), 8 * 99);
        Kit.due("promise 11: the 3 edges of i", g.flow(0, 8), 3 * 99);
        Kit.due("promise 12: all but i", g.side(0, 8), 255);
    }

    /** Each side of a graph against all sets of vertices. */
    private static void allSets() {
        ShareGraph g = Kit.read(Kit.vertices(7) + "edge a b 2;edge b c 2;edge c d 1;edge d e 2;edge e a 1;edge c f 2;"
            + "edge f g 1;edge g a 3;edge b e 1;");
        for (int v = 0; v < 7; v++) {
            for (int w = 0; w < 7; w++) {
                if (v != w) {
                    int least = Integer.MAX_VALUE;
                    int side = 0;
                    for (int set = 0; set < 128; set++) {
                        boolean isOpen = (set >> v & 1) == 1 && (set >> w & 1) == 0;
                        int sum = isOpen ? leaving(set) : Integer.MAX_VALUE;
                        side = sum < least ? set : sum == least && isOpen ? side & set : side;
                        least = Math.min(least, sum);
                    }
                    Kit.due("promise 11: from " + v + " to " + w, g.flow(v, w), least);
                    Kit.due("promise 12: from " + v + " to " + w, g.side(v, w), side);
                }
            }
        }
    }

    private static int leaving(int set) {
        int[][] edges = {{0, 1, 2}, {1, 2, 2}, {2, 3, 1}, {3, 4, 2}, {4, 0, 1}, {2, 5, 2}, {5, 6, 1}, {6, 0, 3}, {1, 4, 1}};
        int sum = 0;
        for (int[] edge : edges) {
            sum += (set >> edge[0] & 1) != (set >> edge[1] & 1) ? edge[2] : 0;
        }
        return sum;
    }

    /** Promise 13: the least flow between two vertices; NONE with fewer than two vertices. */
    private static void leastFlow() {
        Kit.due("promise 13: no vertices", new ShareGraph().leastFlow(), NONE);
        Kit.due("promise 13: one vertex", Kit.read("vertex a 9;").leastFlow(), NONE);
        Kit.due("promise 13: two vertices", Kit.read(Kit.vertices(2)).leastFlow(), 0);
        Kit.due("promise 13: two and an edge", Kit.read(Kit.vertices(2) + "edge a b 99;").leastFlow(), 99);
        String three = Kit.vertices(3);
        Kit.due("promise 13: one alone", Kit.read(three + "edge a b 9;").leastFlow(), 0);
        Kit.due("promise 13: one of 4 alone", Kit.read(Kit.vertices(4) + "edge d b 9;edge b c 9;").leastFlow(), 0);
        Kit.due("promise 13: b a", Kit.read(three + "edge a b 3;edge c a 5;").leastFlow(), 3);
        Kit.due("promise 13: far from a", Kit.read(three + "edge a b 5;edge b c 3;").leastFlow(), 3);
        Kit.due("promise 13: a round", Kit.read(three + "edge a b 5;edge b c 3;edge c a 4;").leastFlow(), 7);
        Kit.due("promise 13: two halves", Kit.read(Kit.vertices(6) + "edge a b 9;edge b c 9;edge c a 9;edge d e 9;edge e f 9;"
            + "edge f d 9;edge c d 1;edge a f 1;").leastFlow(), 2);
        Kit.due("promise 13: 14 vertices", Kit.read(Kit.vertices(14) + Kit.edges(40)).leastFlow(), 3);
    }

    /** Parts, groups and weights of vertices are nothing to flows. */
    private static void partsAreNothing() {
        ShareGraph g = Kit.read("vertex a 9;vertex b 1;vertex c 50;credit 99;slack 99;edge a b 3;edge b c 2;");
        int[] due = {g.flow(0, 2), g.side(0, 2), g.leastFlow(), g.between(0, 1)};
        g.shrink();
        g.move(0, 1);
        int[] got = {g.flow(0, 2), g.side(0, 2), g.leastFlow(), g.between(0, 1)};
        for (int i = 0; i < 4; i++) {
            Kit.due("term 5: in other parts, " + i, got[i], due[i]);
        }
        Kit.due("term 5: flow, side, least flow", due[0] * 100 + due[1] * 10 + due[2], 232);
    }

    /** Promise 42: the vertices of the side of the first one come into part 0, all others into part 1. */
    private static void placeApart() {
        ShareGraph g = Kit.read(Kit.vertices(3) + "edge a b 3;edge b c 2;");
        Kit.due("promise 42: c from a", g.placeApart(2, 0), 2);
        Kit.due("promise 42: a and b in part 1", Kit.parts(g), "110");
        Kit.due("promise 42: a and b from c", g.placeApart(0, 2), 3);
        Kit.due("promise 42: c in part 1", Kit.parts(g), "001");
        Kit.due("promise 42: the same again", g.placeApart(1, 2), 0);
        Kit.due("promise 42: all are as they were", Kit.parts(g), "001");
        Kit.due("promise 42: a from b", g.placeApart(0, 1), 1);
        Kit.due("promise 42: b and c in part 1", Kit.parts(g), "011");
        Kit.due("promise 46: each can be undone, also that of none", g.setting(10), 4);
        Kit.due("term 6: three groups and two changed, and one", g.events(), 6);
    }

    private static void placeApartOfMany() {
        ShareGraph g = Kit.read(Kit.vertices(14));
        Kit.due("promise 42: all but a", g.placeApart(0, 13), 13);
        Kit.due("promise 42: their parts", Kit.parts(g), "0" + "1".repeat(13));
        Kit.due("promise 42: a and n change", g.placeApart(13, 0), 2);
        Kit.due("promise 42: their parts", Kit.parts(g), "1".repeat(13) + "0");
        // debts and the credit keep no vertex where it is
        ShareGraph heavy = Kit.read("vertex a 1;vertex b 9;vertex c 9;edge b c 1;");
        Kit.due("promise 42: b and c", heavy.placeApart(0, 1), 2);
        Kit.due("promise 42: they are too heavy together", heavy.debts(), 8);
    }

    /** Promise 42: 2 parts and level 0. */
    private static void placeApartWhen() {
        for (int parts = 2; parts <= 4; parts++) {
            ShareGraph g = Kit.read(Kit.vertices(2) + "edge a b 1;slack 9;parts " + parts + ";");
            if (parts == 2) {
                Kit.due("promise 42: 2 parts", g.placeApart(0, 1), 1);
                g.undo();
                g.shrink();
                Kit.refuses("promise 42: level 1", Kit.STATE, g, () -> g.placeApart(0, 1));
                g.grow();
                Kit.due("promise 42: level 0 again", g.placeApart(1, 0), 1);
            } else {
                Kit.refuses("promise 42: more parts", Kit.STATE, g, () -> g.placeApart(0, 1));
            }
        }
    }
}
