/** Promises 22 to 33: groups, mates, gains, steps and the best sharing. */
public final class GroupsTest {
    /** One heavy vertex in the middle: each level merges one leaf more, the heaviest edge first. */
    static final String STAR = "vertex a 1;vertex b 1;vertex c 1;vertex d 1;vertex e 1;vertex f 1;vertex g 1;"
        + "edge a b 1;edge a c 2;edge a d 3;edge a e 4;edge a f 5;edge a g 6;slack 99;";
    /** Two vertices that want to come together, but are too heavy for it without a credit. */
    static final String TWINS = "vertex a 5;vertex b 5;edge a b 5;";

    public static void main(String[] args) {
        promise22();
        promise23();
        promise24();
        promise25();
        promise25Choice();
        promise26();
        promise27();
        promise28();
        promise29();
        promise29Ties();
        promise29Gains();
        promise30();
        promise31();
        promise32();
        promise33();
        Kit.end("GroupsTest");
    }

    private static void promise22() {
        ShareGraph g = Kit.read(Kit.SQUARE);
        g.move(2, 1);
        int[] c = {4, 2, 1, 5};
        for (int what = 0; what < 4; what++) {
            Kit.due("22: group 2 of level 0, " + what, g.group(2, what), c[what]);
        }
        ShareGraph h = Kit.read(Kit.SQUARE);
        h.shrink();
        h.move(1, 1);
        int[] cd = {12, 5, 1, 3};
        for (int what = 0; what < 4; what++) {
            Kit.due("22: group 1 of level 1, " + what, h.group(1, what), cd[what]);
        }
        Kit.refuses("22: group 2 of level 1", Kit.INDEX, h, () -> h.group(2, 0));
        Kit.refuses("22: group -1", Kit.INDEX, h, () -> h.group(-1, 9));
        Kit.refuses("22: what 4", Kit.ARGUMENT, h, () -> h.group(1, 4));
        Kit.refuses("22: what -1", Kit.ARGUMENT, h, () -> h.group(0, -1));
        h.setCredit(99);
        h.move(1, 0);
        Kit.due("22: joined to groups of its own part, too", h.group(1, 3), 3);
    }

    private static void promise23() {
        ShareGraph g = Kit.read(STAR);
        Kit.due("23: level 0", Kit.groups(g), "0123456");
        g.shrink();
        Kit.due("23: a and g", Kit.groups(g), "0123450");
        g.shrink();
        Kit.due("23: a, f and g", Kit.groups(g), "0123400");
        Kit.refuses("23: vertex 7", Kit.INDEX, g, () -> g.groupOf(7));
        Kit.refuses("23: vertex -1", Kit.INDEX, g, () -> g.groupOf(-1));
    }

    private static void promise24() {
        Kit.due("24: no vertices", new ShareGraph().whyNotShrink(), 2);
        Kit.due("24: no edges", Kit.read("vertex a 1;vertex b 1;slack 9;").whyNotShrink(), 2);
        ShareGraph g = Kit.read(Kit.SQUARE);
        Kit.due("24: no reason", g.whyNotShrink(), 0);
        g.shrink();
        Kit.due("24: too heavy together", g.whyNotShrink(), 2);
        ShareGraph apart = Kit.read("vertex a 1;vertex b 1;edge a b 1;slack 9;");
        apart.move(0, 1);
        Kit.due("24: in different parts", apart.whyNotShrink(), 2);
        ShareGraph star = Kit.read(STAR);
        for (int level = 0; level < 4; level++) {
            Kit.due("24: no reason at level " + level, star.whyNotShrink(), 0);
            star.shrink();
        }
        Kit.due("24: level 4", star.whyNotShrink(), 1);
        star.move(0, 1);
        Kit.due("24: level 4, and no two groups", star.whyNotShrink(), 1);
    }

    private static void promise25() {
        ShareGraph g = Kit.read(STAR);
        Kit.due("25: the heaviest edge", g.mate(0), 6);
        Kit.due("25: and back", g.mate(6), 0);
        Kit.due("25: alone", g.mate(3), ShareGraph.NONE);
        Kit.refuses("25: group 7", Kit.INDEX, g, () -> g.mate(7));
        Kit.refuses("25: group -1", Kit.INDEX, g, () -> g.mate(-1));
        g.move(6, 1);
        Kit.due("25: in another part", g.mate(0), 5);
        g.undo();
        Kit.run(g, "shrink;shrink;shrink;shrink;");
        Kit.due("25: as if one could at level 4", g.mate(0), 2);
        Kit.due("25: as if one could at level 4", g.mate(2), 0);
    }

    private static void promise25Choice() {
        String five = "vertex a 1;vertex b 1;vertex c 1;vertex d 1;vertex e 1;slack 9;";
        ShareGraph tie = Kit.read(five + "edge a d 2;edge a c 2;edge a b 1;edge b c 9;");
        Kit.due("25: the lowest one of several", tie.mate(0), 2);
        Kit.due("25: c is merged already", tie.mate(1), ShareGraph.NONE);
        ShareGraph behind = Kit.read(five + "edge a c 1;edge b c 9;edge b d 1;");
        Kit.due("25: by number, not by weight", behind.mate(0), 2);
        Kit.due("25: the next one", behind.mate(1), 3);
        ShareGraph heavy = Kit.read("vertex a 3;vertex b 4;vertex c 3;vertex d 2;"
            + "edge a b 9;edge a c 8;edge a d 1;edge b d 2;");
        Kit.due("25: weight 7 of 6 is too much, 6 is not", heavy.mate(0), 2);
        Kit.due("25: b and d", heavy.mate(1), 3);
        ShareGraph turned = Kit.read(five + "edge c a 2;edge b a 1;edge e b 3;edge d b 4;");
        Kit.due("25: edges told from behind", turned.mate(0) * 10 + turned.mate(1), 23);
        ShareGraph one = Kit.read(five + "edge d e 1;");
        Kit.due("25: not joined", one.mate(0), ShareGraph.NONE);
        Kit.due("25: d and e", one.mate(4), 3);
    }

    private static void promise26() {
        ShareGraph g = Kit.read(Kit.SQUARE);
        Kit.due("26: all in one part", g.gain(0, 1), -7);
        Kit.due("26: there already", g.gain(0, 0), 0);
        g.move(2, 1);
        Kit.due("26: d to c", g.gain(3, 1), 2);
        Kit.due("26: b to c", g.gain(1, 1), -4);
        Kit.due("26: c back", g.gain(2, 0), 5);
        Kit.refuses("26: group 4", Kit.INDEX, g, () -> g.gain(4, 0));
        Kit.refuses("26: group -1", Kit.INDEX, g, () -> g.gain(-1, 0));
        Kit.refuses("26: part 2", Kit.INDEX, g, () -> g.gain(0, 2));
        Kit.refuses("26: part -1", Kit.INDEX, g, () -> g.gain(0, -1));
        ShareGraph level = Kit.read(Kit.SQUARE);
        level.shrink();
        Kit.due("26: of a group of two", level.gain(0, 1), -3);
        ShareGraph three = Kit.read(Kit.SQUARE.replace("parts 2", "parts 3"));
        three.move(1, 1);
        three.move(3, 2);
        Kit.due("26: a to b, past d", three.gain(0, 1), 5);
        Kit.due("26: a to d, past b", three.gain(0, 2), 2);
        Kit.due("26: b to d, which it is not joined to", three.gain(1, 2), 0);
    }

    private static void promise27() {
        ShareGraph g = Kit.read(TWINS);
        Kit.due("27: it is there", g.whyNotMove(0, 0), 1);
        Kit.due("27: fewer debts", g.whyNotMove(0, 1), 0);
        g.move(0, 1);
        Kit.due("27: more debts than now and the credit", g.whyNotMove(1, 1), 2);
        g.setCredit(4);
        Kit.due("27: a credit of 4", g.whyNotMove(1, 1), 2);
        g.setCredit(5);
        Kit.due("27: a credit of 5", g.whyNotMove(1, 1), 0);
        Kit.due("27: it is there", g.whyNotMove(1, 0), 1);
        Kit.refuses("27: group 2", Kit.INDEX, g, () -> g.whyNotMove(2, 0));
        Kit.refuses("27: group -1", Kit.INDEX, g, () -> g.whyNotMove(-1, 0));
        Kit.refuses("27: part 2", Kit.INDEX, g, () -> g.whyNotMove(0, 2));
        Kit.refuses("27: part -1", Kit.INDEX, g, () -> g.whyNotMove(0, -1));
        ShareGraph same = Kit.read("vertex a 9;vertex b 1;");
        same.move(1, 1);
        Kit.due("27: as many debts as now", same.whyNotMove(0, 1), 2);
        Kit.due("27: as many debts as now", Kit.read("vertex a 9;").whyNotMove(0, 1), 0);
    }

    private static void promise28() {
        ShareGraph g = Kit.read(Kit.SQUARE);
        Kit.due("28: a away", g.debtsIf(0, 1), 3);
        Kit.due("28: b away", g.debtsIf(1, 1), 2);
        Kit.due("28: where it is", g.debtsIf(1, 0), 5);
        Kit.refuses("28: group 4", Kit.INDEX, g, () -> g.debtsIf(4, 0));
        Kit.refuses("28: group -1", Kit.INDEX, g, () -> g.debtsIf(-1, 0));
        Kit.refuses("28: part 2", Kit.INDEX, g, () -> g.debtsIf(0, 2));
        Kit.refuses("28: part -1", Kit.INDEX, g, () -> g.debtsIf(0, -1));
        g.shrink();
        Kit.due("28: a group of two", g.debtsIf(1, 1), 0);
        ShareGraph heavy = Kit.read("vertex a 9;vertex b 2;vertex c 7;parts 3;");
        heavy.move(2, 1);
        Kit.due("28: the debts go along", heavy.debtsIf(0, 2), 4);
        Kit.due("28: the debts come together", heavy.debtsIf(0, 1), 10);
    }

    private static void promise29() {
        ShareGraph g = Kit.read(Kit.SQUARE);
        Kit.due("29: the greatest gain of those that lower the debts", g.nextStep(), 21);
        g.step();
        Kit.due("29: the next one", g.nextStep(), 31);
        g.step();
        Kit.due("29: no gain", g.nextStep(), ShareGraph.NONE);
        Kit.due("29: no vertices", new ShareGraph().nextStep(), ShareGraph.NONE);
        Kit.due("29: no move lowers the debts", Kit.read("vertex a 9;").nextStep(), ShareGraph.NONE);
    }

    private static void promise29Ties() {
        Kit.due("29: of several the least debts",
            Kit.read("vertex a 1;vertex b 2;vertex c 3;parts 3;").nextStep(), 11);
        Kit.due("29: of several still the lowest group and part",
            Kit.read("vertex a 2;vertex b 3;vertex c 1;parts 3;").nextStep(), 1);
        ShareGraph part = Kit.read("vertex a 2;vertex b 2;vertex c 2;vertex d 2;parts 4;");
        part.move(0, 1);
        Kit.due("29: the lowest part that lowers them", part.nextStep(), 12);
        Kit.due("29: two digits of a group",
            Kit.read("vertex a 1;vertex b 1;vertex c 1;vertex d 1;vertex e 1;vertex f 1;vertex g 1;vertex h 1;"
                + "vertex i 1;vertex j 1;vertex k 1;vertex l 99;edge a b 1;edge c d 1;edge e f 1;edge g h 1;"
                + "edge i j 1;edge k j 1;parts 3;").nextStep(), 111);
        // Two gains of 4 without debts: behind the one of b there are no debts, behind the one of a there are.
        ShareGraph gain = Kit.read("vertex a 6;vertex b 2;vertex c 3;vertex d 3;vertex e 3;vertex f 4;credit 99;"
            + "edge a e 4;edge b f 4;");
        Kit.run(gain, "move 4 1;move 5 1;move 2 1;credit 9;");
        Kit.due("29: no debts yet", gain.debts(), 0);
        Kit.due("29: the gains of a and b", gain.gain(0, 1) * 10 + gain.gain(1, 1), 44);
        Kit.due("29: the debts behind them", gain.debtsIf(0, 1) * 10 + gain.debtsIf(1, 1), 51);
        Kit.due("29: of equal gains the least debts", gain.nextStep(), 11);
    }

    private static void promise29Gains() {
        ShareGraph g = Kit.read(TWINS);
        g.move(0, 1);
        Kit.due("29: a gain that cannot be done", g.nextStep(), ShareGraph.NONE);
        g.setCredit(5);
        Kit.due("29: a gain that can be done", g.nextStep(), 0);
        ShareGraph h = Kit.read("vertex a 9;vertex b 1;vertex c 1;edge b c 3;");
        h.move(1, 1);
        Kit.due("29: debts now, and behind the moves of a and c",
            h.debts() * 100 + h.debtsIf(0, 1) * 10 + h.debtsIf(2, 1), 443);
        Kit.due("29: c lowers them", h.nextStep(), 21);
        ShareGraph one = Kit.read("vertex a 1;vertex b 1;vertex c 1;edge a b 1;edge b c 2;slack 9;");
        one.move(0, 1);
        Kit.due("29: a gain of 1", one.nextStep(), 0);
        ShareGraph none = Kit.read("vertex a 1;vertex b 1;vertex c 1;edge a b 1;edge b c 1;slack 9;parts 3;");
        none.move(0, 1);
        none.move(2, 2);
        none.move(1, 1);
        none.move(0, 0);
        none.move(1, 0);
        none.move(2, 1);
        Kit.due("29: a gain of 1, of c to b", none.nextStep(), 20);
        ShareGraph zero = Kit.read("vertex a 1;vertex b 1;slack 9;");
        Kit.due("29: gains of 0", zero.nextStep(), ShareGraph.NONE);
        ShareGraph only = Kit.read("vertex a 9;vertex b 1;vertex c 1;edge b c 3;parts 3;");
        only.move(1, 1);
        only.move(2, 2);
        Kit.due("29: only a gain is left", only.debts(), 5);
        Kit.due("29: b to c, the lowest group", only.nextStep(), 12);
    }

    private static void promise30() {
        Kit.due("30: no groups", new ShareGraph().bestDebts(), 0);
        Kit.due("30: none needed", Kit.read(Kit.SQUARE).bestDebts(), 0);
        Kit.due("30: a vertex that is too heavy", Kit.read("vertex a 9;vertex b 1;").bestDebts(), 4);
        Kit.due("30: seven groups", Kit.read(STAR).bestDebts(), 0);
        String eight = STAR + "vertex h 1;edge a h 1;";
        ShareGraph g = Kit.read(eight);
        Kit.due("30: eight groups", g.bestDebts(), ShareGraph.NONE);
        g.shrink();
        Kit.due("30: seven groups of level 1", g.bestDebts(), 0);
        Kit.due("30: four parts", Kit.read("vertex a 5;vertex b 4;vertex c 3;vertex d 3;vertex e 3;parts 4;").bestDebts(), 1);
    }

    private static void promise31() {
        Kit.due("31: no groups", new ShareGraph().bestCut(), 0);
        Kit.due("31: the two pairs", Kit.read(Kit.SQUARE).bestCut(), 3);
        Kit.due("31: with slack all together", Kit.read(Kit.SQUARE + "slack 9;").bestCut(), 0);
        Kit.due("31: the debts come first", Kit.read(TWINS).bestCut(), 5);
        Kit.due("31: the credit is nothing to it", Kit.read(TWINS + "credit 99;").bestCut(), 5);
        Kit.due("31: eight groups", Kit.read(STAR + "vertex h 1;").bestCut(), ShareGraph.NONE);
        ShareGraph g = Kit.read(Kit.SQUARE.replace("parts 2", "parts 4"));
        Kit.due("31: four parts", g.bestCut(), 12);
        ShareGraph level = Kit.read("vertex a 1;vertex b 1;vertex c 1;vertex d 1;edge a b 9;edge c d 9;edge a c 1;"
            + "slack 9;");
        Kit.run(level, "shrink;credit 99;move 1 1;");
        Kit.due("31: of the groups of the level", level.bestCut(), 0);
        Kit.due("31: an edge told from behind", Kit.read("vertex a 5;vertex b 5;edge b a 5;").bestCut(), 5);
        Kit.due("31: asking moves nothing", Kit.parts(level), "0011");
    }

    private static void promise32() {
        ShareGraph g = Kit.read(Kit.SQUARE);
        Kit.due("32: two steps", g.stepsToEnd(200), 2);
        Kit.due("32: a limit of 2", g.stepsToEnd(2), 2);
        Kit.due("32: a limit of 1", g.stepsToEnd(1), ShareGraph.NONE);
        Kit.due("32: a limit of 0", g.stepsToEnd(0), ShareGraph.NONE);
        Kit.due("32: asking changes nothing", Kit.state(g), Kit.state(Kit.read(Kit.SQUARE)));
        g.steps(9);
        Kit.due("32: none is left", g.stepsToEnd(0), 0);
        Kit.refuses("32: limit 201", Kit.ARGUMENT, g, () -> g.stepsToEnd(201));
        Kit.refuses("32: limit -1", Kit.ARGUMENT, g, () -> g.stepsToEnd(-1));
        ShareGraph round = Kit.read(TWINS + "credit 5;");
        Kit.due("32: steps without an end", round.stepsToEnd(200), ShareGraph.NONE);
    }

    private static void promise33() {
        ShareGraph g = Kit.read(Kit.SQUARE);
        Kit.due("33: behind none", g.cutBehind(0), 0);
        Kit.due("33: behind one", g.cutBehind(1), 5);
        Kit.due("33: behind two", g.cutBehind(2), 3);
        Kit.due("33: behind all", g.cutBehind(200), 3);
        Kit.due("33: asking changes nothing", Kit.state(g), Kit.state(Kit.read(Kit.SQUARE)));
        Kit.refuses("33: 201 steps", Kit.ARGUMENT, g, () -> g.cutBehind(201));
        Kit.refuses("33: -1 steps", Kit.ARGUMENT, g, () -> g.cutBehind(-1));
        ShareGraph round = Kit.read(TWINS + "credit 5;");
        Kit.due("33: an odd number", round.cutBehind(199), 5);
        Kit.due("33: an even number", round.cutBehind(200), 0);
    }
}
