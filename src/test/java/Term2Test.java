/** Term 2, parts and debts, sentence by sentence, on both sides of each bound; with promises 7 to 10 and 14 to 21. */
public final class Term2Test {
    public static void main(String[] args) {
        allInPart0();
        partNumbers();
        weights();
        limit();
        limitOfMost();
        debt();
        sumOfDebts();
        fewerVerticesThanParts();
        cut();
        cutOfMost();
        cutEdges();
        pieces();
        cutOfPart();
        border();
        heaviest();
        cutShare();
        imbalance();
        settings();
        largestSet();
        betweens();
        Kit.end("Term2Test");
    }

    /** All in part 0 at first. */
    private static void allInPart0() {
        for (int count : new int[] {1, 2, 14}) {
            for (int parts = 2; parts <= 4; parts++) {
                ShareGraph g = Kit.read(Kit.vertices(count) + "parts " + parts + ";");
                Kit.due("term 2: all in part 0", Kit.parts(g), "0".repeat(count));
                Kit.due("term 2: part 0 as a set", g.part(0, 2), (1 << count) - 1);
                for (int part = 1; part < parts; part++) {
                    Kit.due("term 2: nothing in part " + part, g.part(part, 0) + g.part(part, 1) + g.part(part, 2)
                        + g.part(part, 3) + g.part(part, 4), 0);
                }
            }
        }
    }

    /** Each vertex is in one part, 0 to the number of parts - 1. */
    private static void partNumbers() {
        for (int parts = 2; parts <= 4; parts++) {
            ShareGraph g = Kit.read("vertex a 1;vertex b 1;credit 99;parts " + parts + ";");
            for (int part = 1; part < parts; part++) {
                g.move(1, part);
                Kit.due("term 2: the part of b", g.partOf(1), part);
                Kit.due("term 2: b alone in it", g.part(part, 2), 2);
                Kit.due("term 2: a alone in part 0", g.part(0, 2), 1);
            }
            int last = parts;
            Kit.refuses("term 2: no part " + last, Kit.INDEX, g, () -> g.move(1, last));
            Kit.refuses("promise 15: no part " + last, Kit.INDEX, g, () -> g.part(last, 0));
        }
    }

    /** The weight of a part is the sum of the weights of its vertices. */
    private static void weights() {
        ShareGraph g = Kit.read("vertex a 1;vertex b 2;vertex c 4;vertex d 8;vertex e 99;parts 4;credit 99;slack 99;");
        g.move(0, 3);
        g.move(2, 3);
        g.move(4, 1);
        int[] due = {10, 99, 0, 5};
        for (int part = 0; part < 4; part++) {
            Kit.due("term 2: weight of part " + part, g.part(part, 0), due[part]);
        }
        int[] sets = {10, 16, 0, 5};
        for (int part = 0; part < 4; part++) {
            Kit.due("promise 15: part " + part + " as a set", g.part(part, 2), sets[part]);
        }
    }

    /** The limit is the sum of all weights divided by the number of parts, rounded up, plus the slack. */
    private static void limit() {
        for (int parts = 2; parts <= 4; parts++) {
            for (int weight = 1; weight <= 99; weight++) {
                ShareGraph g = Kit.read("parts " + parts + ";vertex a " + weight + ";");
                int due = (int) Math.ceil(weight / (double) parts);
                Kit.due("term 2: the limit of " + weight + " in " + parts, g.setting(5), due);
                Kit.due("term 2: the debt above it", g.debts(), weight - due);
            }
            for (int slack : new int[] {0, 1, 99}) {
                ShareGraph g = Kit.read("parts " + parts + ";vertex a 7;vertex b 6;slack " + slack + ";");
                Kit.due("term 2: the limit with slack " + slack, g.setting(5), (int) Math.ceil(13.0 / parts) + slack);
            }
            Kit.due("term 2: the limit of nothing", Kit.read("parts " + parts + ";").setting(5), 0);
            Kit.due("term 2: the slack of nothing", Kit.read("slack 99;parts " + parts + ";").setting(5), 99);
        }
        ShareGraph credit = Kit.read("vertex a 8;credit 99;");
        Kit.due("term 2: the credit is not in the limit", credit.setting(5), 4);
        credit.setCredit(5);
        Kit.due("term 2: the credit is not in the limit", credit.setting(5), 4);
    }

    private static void limitOfMost() {
        String text = Kit.vertices(14).replace(" 1;", " 99;");
        Kit.due("term 2: the greatest sum", Kit.read(text).setting(6), 1386);
        Kit.due("term 2: the greatest limit", Kit.read(text + "slack 99;").setting(5), 792);
        ShareGraph g = Kit.read(text + "parts 4;");
        Kit.due("term 2: the greatest debts", g.debts(), 1386 - 347);
        Kit.due("promise 21: the greatest weight", (long) (g.imbalance() * 1000), 4000);
    }

    /** The debt of a part is what its weight is above the limit (0 if it is not). */
    private static void debt() {
        int[] due = {5, 4, 3, 2, 1, 0, 0, 0};
        for (int slack = 0; slack < due.length; slack++) {
            ShareGraph g = Kit.read("vertex a 3;vertex b 7;slack " + slack + ";");
            Kit.due("term 2: debt of part 0 with slack " + slack, g.part(0, 1), due[slack]);
            Kit.due("term 2: debt of the empty part", g.part(1, 1), 0);
            Kit.due("promise 17: the sum of all debts", g.debts(), due[slack]);
            g.move(0, 1);
            Kit.due("term 2: debt of b with slack " + slack, g.part(0, 1), Math.max(0, 2 - slack));
            Kit.due("term 2: debt of a with slack " + slack, g.part(1, 1), 0);
        }
    }

    /** Promise 17: the sum of all debts. */
    private static void sumOfDebts() {
        ShareGraph g = Kit.read("vertex a 9;vertex b 9;vertex c 9;vertex d 1;parts 4;credit 99;");
        Kit.due("promise 17: limit 7", g.setting(5), 7);
        Kit.due("promise 17: one part", g.debts(), 21);
        g.move(0, 1);
        Kit.due("promise 17: two parts", g.debts(), 14);
        g.move(1, 3);
        Kit.due("promise 17: three parts", g.debts(), 7);
        Kit.due("promise 17: the last part", g.part(3, 1), 2);
        g.move(3, 2);
        Kit.due("promise 17: a part without debts takes none away", g.debts(), 6);
        Kit.due("promise 17: no vertices", new ShareGraph().debts(), 0);
    }

    /** Parts that cannot all have a vertex. */
    private static void fewerVerticesThanParts() {
        for (int part = 0; part < 4; part++) {
            ShareGraph g = Kit.read("vertex a 9;parts 4;credit 99;");
            if (part > 0) {
                g.move(0, part);
            }
            Kit.due("promise 17: one vertex in part " + part, g.debts(), 6);
            Kit.due("promise 15: its debt", g.part(part, 1), 6);
            Kit.due("promise 19: the heaviest part", g.heaviest(), part);
            Kit.due("promise 30: the best debts", g.bestDebts(), 6);
        }
    }

    /** The cut is the sum of the weights of all edges whose vertices are in different parts. */
    private static void cut() {
        ShareGraph g = Kit.read("vertex a 1;vertex b 1;vertex c 1;parts 3;credit 99;edge a b 1;edge c b 10;edge a c 40;");
        Kit.due("promise 16: none", g.cut(), 0);
        g.move(0, 1);
        Kit.due("promise 16: two edges of a", g.cut(), 41);
        g.move(1, 1);
        Kit.due("promise 16: a and b together", g.cut(), 50);
        g.move(2, 1);
        Kit.due("promise 16: all together in another part", g.cut(), 0);
        g.move(1, 2);
        g.move(0, 0);
        Kit.due("promise 16: all apart", g.cut(), 51);
        Kit.due("promise 16: no edges", Kit.read(Kit.vertices(3)).cut(), 0);
        Kit.due("promise 16: no vertices", new ShareGraph().cut(), 0);
    }

    private static void cutOfMost() {
        ShareGraph g = Kit.read((Kit.vertices(14) + "parts 4;slack 99;").replace(" 1;", " 9;")
            + Kit.edges(40).replace(" 1;", " 99;"));
        Kit.due("promise 7: the greatest sum of edges", g.setting(7), 3960);
        for (int vertex = 0; vertex < 4; vertex++) {
            g.move(vertex, vertex % 3 + 1);
        }
        // a, b, c and d have all 40 edges; only a and d are in one part.
        Kit.due("promise 16: all edges but one", g.cut(), 3960 - 99);
        g.move(3, 0);
        Kit.due("promise 16: all but those of d to e, f, g and h", g.cut(), 3960 - 4 * 99);
    }

    /** Promise 9: 1 if it is cut now, otherwise 0. */
    private static void cutEdges() {
        ShareGraph g = Kit.read(Kit.SQUARE + "credit 99;");
        int[][] due = {{0, 0, 0, 0}, {1, 0, 0, 1}, {0, 0, 1, 1}, {0, 1, 0, 1}, {0, 0, 0, 0}};
        for (int vertex = 0; vertex <= 4; vertex++) {
            for (int edge = 0; edge < 4; edge++) {
                Kit.due("promise 9: edge " + edge + " behind " + vertex + " moves", g.edge(edge, 3), due[vertex][edge]);
            }
            if (vertex < 4) {
                g.move(vertex, 1);
            }
        }
        g.undo();
        Kit.due("promise 9: now is behind undo", g.edge(1, 3), 1);
        ShareGraph three = Kit.read("vertex a 1;vertex b 1;edge a b 1;parts 3;credit 9;");
        three.move(0, 1);
        three.move(1, 2);
        Kit.due("promise 9: between parts 1 and 2", three.edge(0, 3), 1);
        three.move(0, 2);
        Kit.due("promise 9: both in part 2", three.edge(0, 3), 0);
    }

    /** Promise 15: sets of vertices that come together by edges within the part. */
    private static void pieces() {
        for (int count : new int[] {0, 1, 2, 14}) {
            Kit.due("promise 15: pieces without edges", Kit.read(Kit.vertices(count)).part(0, 3), count);
        }
        Kit.due("promise 15: one piece of 14", Kit.read(Kit.vertices(14) + Kit.edges(13)).part(0, 3), 1);
        Kit.due("promise 15: 13 of 14 and one alone", Kit.read(Kit.vertices(14) + Kit.edges(12)).part(0, 3), 2);
        String way = "vertex a 1;vertex b 1;vertex c 1;vertex d 1;vertex e 1;credit 99;parts 3;";
        ShareGraph g = Kit.read(way + "edge d e 1;edge c d 1;edge b c 1;edge a b 1;");
        Kit.due("promise 15: a way told from behind", g.part(0, 3), 1);
        g.move(2, 1);
        Kit.due("promise 15: edges that leave the part do not join", g.part(0, 3), 2);
        Kit.due("promise 15: c alone", g.part(1, 3), 1);
        g.move(1, 1);
        g.move(4, 2);
        Kit.due("promise 15: a and d", g.part(0, 3), 2);
        Kit.due("promise 15: b and c", g.part(1, 3), 1);
        Kit.due("promise 15: e", g.part(2, 3), 1);
        g.move(4, 1);
        Kit.due("promise 15: b and c, e", g.part(1, 3), 2);
        Kit.due("promise 15: nothing", g.part(2, 3), 0);
    }

    /** Promise 15: the sum of the weights of the cut edges that have a vertex in it. */
    private static void cutOfPart() {
        ShareGraph g = Kit.read("vertex a 1;vertex b 1;vertex c 1;vertex d 1;parts 4;credit 99;"
            + "edge a b 1;edge b c 10;edge c d 20;edge d a 40;");
        Kit.due("promise 15: no edge is cut", g.part(0, 4), 0);
        g.move(1, 2);
        Kit.due("promise 15: of part 0", g.part(0, 4), 11);
        Kit.due("promise 15: of part 2", g.part(2, 4), 11);
        Kit.due("promise 15: of part 1", g.part(1, 4), 0);
        g.move(2, 3);
        Kit.due("promise 15: not those within the part", g.part(0, 4), 21);
        Kit.due("promise 15: of part 2", g.part(2, 4), 11);
        Kit.due("promise 15: of part 3", g.part(3, 4), 30);
        Kit.due("promise 16: each edge once", g.cut(), 31);
    }

    /** Promise 18: the vertices that have an edge that is cut, as a set. */
    private static void border() {
        Kit.due("promise 18: no vertices", new ShareGraph().border(), 0);
        ShareGraph g = Kit.read(Kit.vertices(14) + "edge a n 1;edge b c 1;credit 99;slack 99;parts 4;");
        Kit.due("promise 18: no edge is cut", g.border(), 0);
        g.move(4, 3);
        Kit.due("promise 18: a vertex without edges is in none", g.border(), 0);
        g.move(13, 3);
        Kit.due("promise 18: the first and the last vertex", g.border(), 8193);
        g.move(1, 2);
        Kit.due("promise 18: four vertices", g.border(), 8199);
        g.move(2, 2);
        Kit.due("promise 18: together in another part", g.border(), 8193);
    }

    /** Promise 19: the heaviest part, the lowest one of several. */
    private static void heaviest() {
        Kit.due("promise 19: no vertices", new ShareGraph().heaviest(), 0);
        ShareGraph g = Kit.read("vertex a 5;vertex b 5;vertex c 5;vertex d 6;parts 4;credit 99;slack 99;");
        g.move(3, 3);
        Kit.due("promise 19: part 0 of 15", g.heaviest(), 0);
        g.move(0, 1);
        g.move(1, 2);
        Kit.due("promise 19: part 3 of 6", g.heaviest(), 3);
        g.move(3, 2);
        Kit.due("promise 19: part 2 of 11", g.heaviest(), 2);
        g.move(2, 1);
        Kit.due("promise 19: part 2 of 11, part 1 of 10", g.heaviest(), 2);
        ShareGraph same = Kit.read("vertex a 5;vertex b 5;vertex c 5;parts 4;credit 99;");
        same.move(2, 3);
        same.move(1, 2);
        Kit.due("promise 19: parts 0, 2 and 3", same.heaviest(), 0);
        same.move(0, 1);
        Kit.due("promise 19: parts 1, 2 and 3", same.heaviest(), 1);
    }

    /** Promise 20: as a float divided by a float; 0.0f without edges. */
    private static void cutShare() {
        Kit.dueD("promise 20: no vertices", new ShareGraph().cutShare(), 0.0f);
        Kit.dueD("promise 20: no edges", Kit.read(Kit.vertices(3)).cutShare(), 0.0f);
        Kit.dueD("promise 20: no cut", Kit.read(Kit.vertices(2) + "edge a b 7;").cutShare(), 0.0f);
        for (int weight = 1; weight < 99; weight++) {
            ShareGraph g = Kit.read("vertex a 1;vertex b 1;vertex c 1;edge a b " + weight + ";edge b c 3;");
            g.move(0, 1);
            Kit.dueD("promise 20: " + weight + " of " + (weight + 3), g.cutShare(), weight / (weight + 3.0f));
        }
    }

    /** Promise 21: as a double divided by a double; 0.0 without vertices. */
    private static void imbalance() {
        Kit.dueD("promise 21: no vertices", new ShareGraph().imbalance(), 0.0);
        for (int parts = 2; parts <= 4; parts++) {
            for (int weight = 1; weight < 99; weight++) {
                ShareGraph g = Kit.read("vertex a 30;vertex b " + weight + ";parts " + parts + ";credit 99;");
                Kit.dueD("promise 21: all in one part", g.imbalance(), parts);
                g.move(1, parts - 1);
                Kit.dueD("promise 21: 30 and " + weight + " in " + parts, g.imbalance(),
                    (double) (Math.max(30, weight) * parts) / (double) (30 + weight));
            }
        }
    }

    /** Promise 7: each number before and behind a change of just that. */
    private static void settings() {
        setting("vertices", 0, "", 0, Kit.vertices(1), 1);
        setting("vertices", 0, Kit.vertices(13), 13, Kit.vertices(14), 14);
        setting("edges", 1, Kit.vertices(14), 0, Kit.vertices(14) + Kit.edges(1), 1);
        setting("edges", 1, Kit.vertices(14) + Kit.edges(39), 39, Kit.vertices(14) + Kit.edges(40), 40);
        setting("parts", 2, "", 2, "parts 4;", 4);
        setting("slack", 3, "", 0, "slack 99;", 99);
        setting("credit", 4, "", 0, "credit 99;", 99);
        setting("the sum of vertices", 6, "", 0, "vertex a 99;vertex b 1;", 100);
        setting("the sum of edges", 7, Kit.vertices(3), 0, Kit.vertices(3) + "edge a b 99;edge b c 2;", 101);
        setting("groups", 9, "", 0, Kit.vertices(14), 14);
        ShareGraph g = Kit.read(GroupsTest.STAR);
        for (int level = 0; level <= 4; level++) {
            Kit.due("promise 7: level", g.setting(8), level);
            Kit.due("promise 7: groups", g.setting(9), 7 - level);
            Kit.due("promise 7: changes that can be undone", g.setting(10), level);
            if (level < 4) {
                g.shrink();
            }
        }
        Kit.due("promise 7: the vertices stay", g.setting(0), 7);
        g.setCredit(12);
        Kit.due("promise 7: the credit now", g.setting(4), 12);
        g.undo();
        Kit.due("promise 7: the credit before", g.setting(4), 0);
    }

    private static void setting(String what, int number, String text, int due, String other, int otherDue) {
        Kit.due("promise 7: " + what, Kit.read(text).setting(number), due);
        Kit.due("promise 7: " + what, Kit.read(other).setting(number), otherDue);
    }

    /** Promise 7: vertices in the largest set of vertices that come together by edges (0 without vertices). */
    private static void largestSet() {
        setting("the largest set", 11, "", 0, Kit.vertices(1), 1);
        setting("the largest set", 11, Kit.vertices(14), 1, Kit.vertices(14) + "edge m n 1;", 2);
        setting("the largest set", 11, Kit.vertices(14) + Kit.edges(12), 13, Kit.vertices(14) + Kit.edges(13), 14);
        setting("the largest set", 11, Kit.vertices(6) + "edge a b 1;edge c d 1;edge e f 1;", 2,
            Kit.vertices(6) + "edge a b 1;edge d f 1;edge e d 1;", 3);
        ShareGraph g = Kit.read(Kit.vertices(4) + "edge a b 1;edge c b 1;credit 99;");
        g.move(1, 1);
        Kit.due("promise 7: also by edges that are cut", g.setting(11), 3);
        for (int weight = 1; weight <= 99; weight++) {
            ShareGraph heavy = Kit.read("vertex a 1;vertex b " + weight + ";edge a b 1;");
            Kit.due("promise 7: vertices are counted, not weighed, with " + weight, heavy.setting(11), 2);
        }
    }

    /** Promise 10: 0 if they have none, or are the same. */
    private static void betweens() {
        ShareGraph g = Kit.read(Kit.vertices(14) + "edge a n 99;edge m n 1;edge b a 50;");
        Kit.due("promise 10: the first and the last", g.between(0, 13), 99);
        Kit.due("promise 10: the last and the first", g.between(13, 0), 99);
        Kit.due("promise 10: the last two", g.between(12, 13), 1);
        Kit.due("promise 10: told from behind", g.between(0, 1) * 100 + g.between(1, 0), 5050);
        Kit.due("promise 10: none", g.between(1, 13) + g.between(1, 2) + g.between(12, 0), 0);
        for (int vertex = 0; vertex < 14; vertex++) {
            Kit.due("promise 10: the same", g.between(vertex, vertex), 0);
        }
    }
}
