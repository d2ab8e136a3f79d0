/** Promises 36 to 43: the calls that change something. */
public final class ChangesTest {
    public static void main(String[] args) {
        promise36();
        promise37();
        promise38();
        promise39();
        promise40();
        promise41();
        promise41First();
        promise42();
        promise43();
        Kit.end("ChangesTest");
    }

    private static void promise36() {
        ShareGraph g = Kit.read(GroupsTest.STAR);
        String[] groups = {"0123450", "0123400", "0123000", "0120000"};
        for (int level = 1; level <= 4; level++) {
            Kit.due("36: groups of level " + level, g.shrink(), 7 - level);
            Kit.due("36: level", g.setting(8), level);
            Kit.due("36: groups of the vertices", Kit.groups(g), groups[level - 1]);
        }
        Kit.due("36: can be undone", g.setting(10), 4);
        Kit.refuses("36: level 4", Kit.STATE, g, g::shrink);
        Kit.refuses("36: no two groups", Kit.STATE, new ShareGraph(), () -> new ShareGraph().shrink());
        ShareGraph square = Kit.read(Kit.SQUARE);
        Kit.due("36: two pairs", square.shrink(), 2);
        Kit.due("36: by their lowest vertices", Kit.groups(square), "0011");
        Kit.refuses("36: too heavy", Kit.STATE, square, square::shrink);
        ShareGraph crossed = Kit.read("vertex a 1;vertex b 1;vertex c 1;vertex d 1;vertex e 1;edge a e 1;edge b d 1;slack 9;");
        crossed.shrink();
        Kit.due("36: a group that stays alone", Kit.groups(crossed), "01210");
    }

    private static void promise37() {
        ShareGraph g = Kit.read(GroupsTest.STAR);
        Kit.refuses("37: level 0", Kit.STATE, g, g::grow);
        g.shrink();
        g.shrink();
        g.move(0, 1);
        Kit.due("37: groups of level 1", g.grow(), 6);
        Kit.due("37: as they were", Kit.groups(g), "0123450");
        Kit.due("37: each vertex stays in its part", Kit.parts(g), "1000011");
        Kit.due("37: groups of level 0", g.grow(), 7);
        Kit.refuses("37: level 0 again", Kit.STATE, g, g::grow);
        Kit.due("37: can be undone", g.setting(10), 5);
        Kit.due("37: other groups by now", g.shrink(), 6);
        Kit.due("37: a and g are in one part", Kit.groups(g), "0123450");
        g.grow();
        g.move(6, 0);
        Kit.due("37: a and f are in one part", g.shrink(), 6);
        Kit.due("37: g is alone", Kit.groups(g), "0123405");
    }

    private static void promise38() {
        ShareGraph g = Kit.read(Kit.SQUARE);
        Kit.due("38: the cut", g.move(2, 1), 5);
        Kit.due("38: the part", Kit.parts(g), "0010");
        Kit.due("38: can be undone", g.setting(10), 1);
        Kit.refuses("38: it is there", Kit.STATE, g, () -> g.move(2, 1));
        g.move(3, 1);
        Kit.refuses("38: too many debts", Kit.STATE, g, () -> g.move(1, 1));
        Kit.refuses("38: group 4", Kit.INDEX, g, () -> g.move(4, 1));
        Kit.fails("38: group -1", Kit.INDEX, () -> g.move(-1, 1));
        Kit.fails("38: part 2", Kit.INDEX, () -> g.move(0, 2));
        Kit.fails("38: part -1", Kit.INDEX, () -> g.move(0, -1));
        ShareGraph level = Kit.read(Kit.SQUARE);
        level.shrink();
        Kit.due("38: a group of two", level.move(0, 1), 3);
        Kit.due("38: both vertices", Kit.parts(level), "1100");
        Kit.refuses("38: group 2 of level 1", Kit.INDEX, level, () -> level.move(2, 0));
    }

    private static void promise39() {
        ShareGraph g = Kit.read(Kit.SQUARE);
        Kit.due("39: the first step", g.step(), 5);
        Kit.due("39: its part", Kit.parts(g), "0010");
        Kit.due("39: the second step", g.step(), 3);
        Kit.due("39: its part", Kit.parts(g), "0011");
        String before = Kit.state(g);
        Kit.due("39: none", g.step(), ShareGraph.NONE);
        Kit.due("39: nothing changes, and nothing more can be undone", Kit.state(g), before);
    }

    private static void promise40() {
        ShareGraph g = Kit.read(Kit.SQUARE);
        Kit.due("40: until there is none", g.steps(99), 2);
        Kit.due("40: the parts", Kit.parts(g), "0011");
        Kit.due("40: none is left", g.steps(1), 0);
        Kit.due("40: both can be undone", g.setting(10), 2);
        g.undo();
        g.undo();
        Kit.due("40: at most one", g.steps(1), 1);
        Kit.due("40: the parts", Kit.parts(g), "0010");
        Kit.refuses("40: 0", Kit.ARGUMENT, g, () -> g.steps(0));
        Kit.refuses("40: 100", Kit.ARGUMENT, g, () -> g.steps(100));
        Kit.refuses("40: -1", Kit.ARGUMENT, g, () -> g.steps(-1));
        Kit.due("40: steps without an end", Kit.read(GroupsTest.TWINS + "credit 5;").steps(99), 99);
    }

    private static void promise41() {
        ShareGraph g = Kit.read(Kit.SQUARE);
        Kit.due("41: two groups changed", g.placeBest(), 2);
        Kit.due("41: their parts", Kit.parts(g), "0011");
        Kit.due("41: none changed", g.placeBest(), 0);
        Kit.due("41: both can be undone", g.setting(10), 2);
        ShareGraph level = Kit.read(Kit.SQUARE);
        level.shrink();
        level.move(0, 1);
        Kit.due("41: groups of two, the part of group 0 is lowest", level.placeBest(), 2);
        Kit.due("41: their parts", Kit.parts(level), "0011");
        ShareGraph eight = Kit.read(GroupsTest.STAR + "vertex h 1;");
        Kit.refuses("41: eight groups", Kit.STATE, eight, eight::placeBest);
        Kit.due("41: no groups", new ShareGraph().placeBest(), 0);
        ShareGraph debts = Kit.read(GroupsTest.TWINS);
        debts.move(0, 1);
        debts.setCredit(5);
        debts.step();
        Kit.due("41: as the reasons against a move are nothing to it", debts.placeBest(), 1);
        Kit.due("41: their parts", Kit.parts(debts), "01");
    }

    private static void promise41First() {
        ShareGraph free = Kit.read("vertex a 1;vertex b 1;vertex c 1;vertex d 1;parts 3;credit 99;");
        free.move(0, 2);
        Kit.due("41: of several the first one", free.placeBest(), 3);
        Kit.due("41: the lowest parts first", Kit.parts(free), "0011");
        ShareGraph four = Kit.read("vertex a 2;vertex b 2;vertex c 2;vertex d 2;parts 4;");
        four.placeBest();
        Kit.due("41: each has its own part", Kit.parts(four), "0123");
        ShareGraph cut = Kit.read("vertex a 1;vertex b 1;vertex c 1;vertex d 1;edge a d 3;edge b c 2;");
        cut.placeBest();
        Kit.due("41: the least cut before the first one", Kit.parts(cut), "0110");
        ShareGraph heavy = Kit.read("vertex a 3;vertex b 3;vertex c 2;edge a b 9;");
        heavy.placeBest();
        Kit.due("41: the least debts before the least cut, and the first one of two", Kit.parts(heavy), "010");
    }

    private static void promise42() {
        ShareGraph g = Kit.read(Kit.SQUARE);
        Kit.due("42: c and d stay, a and b go", g.placeApart(2, 0), 2);
        Kit.due("42: the parts", Kit.parts(g), "1100");
        Kit.due("42: and back", g.placeApart(0, 2), 4);
        Kit.due("42: the parts", Kit.parts(g), "0011");
        Kit.due("42: none changed", g.placeApart(1, 3), 0);
        Kit.due("42: all can be undone", g.setting(10), 3);
        Kit.refuses("42: the same", Kit.ARGUMENT, g, () -> g.placeApart(1, 1));
        Kit.refuses("42: vertex 4", Kit.INDEX, g, () -> g.placeApart(4, 4));
        Kit.fails("42: vertex -1", Kit.INDEX, () -> g.placeApart(-1, 0));
        Kit.fails("42: other 4", Kit.INDEX, () -> g.placeApart(0, 4));
        g.shrink();
        Kit.refuses("42: level 1", Kit.STATE, g, () -> g.placeApart(0, 2));
        Kit.fails("42: level 1, and the same", Kit.ARGUMENT, () -> g.placeApart(2, 2));
        Kit.fails("42: level 1, and vertex 4", Kit.INDEX, () -> g.placeApart(0, 4));
        ShareGraph three = Kit.read(Kit.SQUARE.replace("parts 2", "parts 3"));
        Kit.refuses("42: 3 parts", Kit.STATE, three, () -> three.placeApart(0, 2));
        Kit.refuses("42: 3 parts, and the same", Kit.ARGUMENT, three, () -> three.placeApart(0, 0));
        ShareGraph debts = Kit.read("vertex a 1;vertex b 9;vertex c 9;edge a b 1;edge b c 2;");
        debts.placeApart(1, 0);
        Kit.due("42: debts do not keep them", Kit.parts(debts), "100");
    }

    private static void promise43() {
        ShareGraph g = Kit.read(Kit.SQUARE + "credit 7;");
        Kit.due("43: the previous one", g.setCredit(99), 7);
        Kit.due("43: the credit", g.setting(4), 99);
        Kit.due("43: the previous one", g.setCredit(0), 99);
        Kit.due("43: the same again", g.setCredit(0), 0);
        Kit.due("43: all can be undone", g.setting(10), 3);
        Kit.refuses("43: 100", Kit.ARGUMENT, g, () -> g.setCredit(100));
        Kit.refuses("43: -1", Kit.ARGUMENT, g, () -> g.setCredit(-1));
    }
}
