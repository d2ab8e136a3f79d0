/** Promises 44 to 48: the report, undo and a saved state. */
public final class StateTest {
    public static void main(String[] args) {
        promise44();
        promise45();
        promise46();
        promise46Kinds();
        promise46NotKept();
        promise46Keeps();
        promise47();
        promise48();
        Kit.end("StateTest");
    }

    private static void promise44() {
        Kit.due("44: no vertices", Kit.reportOf(new ShareGraph()), "0:\n1:\n");
        ShareGraph g = Kit.read(Kit.SQUARE);
        Kit.due("44: all in part 0", Kit.reportOf(g), "0: a b c d\n1:\n");
        g.move(2, 1);
        Kit.due("44: the border", Kit.reportOf(g), "0: a b+ d+\n1: c+\n");
        Kit.due("44: its bytes", g.report(), 17);
        StringBuilder text = new StringBuilder("parts 4;");
        StringBuilder due = new StringBuilder("0:\n1:\n2:\n3:");
        for (char last = 'a'; last < 'o'; last++) {
            text.append("vertex zzzzzzz").append(last).append(" 1;");
            due.append(" zzzzzzz").append(last);
        }
        ShareGraph big = Kit.read(text + "credit 99;");
        for (int vertex = 0; vertex < 14; vertex++) {
            big.move(vertex, 3);
        }
        Kit.due("44: 14 names of 8 letters", Kit.reportOf(big), due + "\n");
        ShareGraph names = Kit.read("vertex z 1;vertex az 1;vertex abcdefgh 1;edge az z 1;parts 3;");
        names.move(0, 2);
        names.move(2, 1);
        Kit.due("44: names and parts", Kit.reportOf(names), "0: az+\n1: abcdefgh\n2: z+\n");
    }

    private static void promise45() {
        ShareGraph g = Kit.read(Kit.SQUARE);
        Kit.fails("45: there was no report", Kit.INDEX, () -> g.reportByte(0));
        int length = g.report();
        Kit.due("45: the first byte", g.reportByte(0), '0');
        Kit.due("45: the last byte", g.reportByte(length - 1), '\n');
        Kit.refuses("45: behind the last one", Kit.INDEX, g, () -> g.reportByte(length));
        Kit.refuses("45: -1", Kit.INDEX, g, () -> g.reportByte(-1));
        g.move(0, 1);
        Kit.due("45: the latest report, not the state", g.reportByte(3), 'a');
        g.report();
        Kit.due("45: the next report", g.reportByte(3), 'b');
        g.undo();
        Kit.due("45: undo leaves it", g.reportByte(3), 'b');
        Kit.feed(g, "");
        g.readText();
        Kit.due("45: a text leaves it", g.reportByte(3), 'b');
        Kit.due("45: a shorter one", g.report(), 6);
        Kit.fails("45: behind the shorter one", Kit.INDEX, () -> g.reportByte(6));
    }

    private static void promise46() {
        ShareGraph g = Kit.read(Kit.SQUARE);
        Kit.due("46: nothing to undo", g.undo(), ShareGraph.NONE);
        String[] before = new String[9];
        for (int i = 0; i < 9; i++) {
            before[i] = Kit.parts(g) + g.setting(4) + g.events();
            if (i % 2 == 0) {
                g.setCredit(90 + i);
            } else {
                g.move(i / 2, 1);
            }
            Kit.due("46: kept", g.setting(10), Math.min(6, i + 1));
        }
        for (int i = 8; i >= 3; i--) {
            Kit.due("46: left", g.undo(), i - 3);
            Kit.due("46: the latest first", Kit.parts(g) + g.setting(4) + g.events(), before[i]);
        }
        String state = Kit.state(g);
        Kit.due("46: only six", g.undo(), ShareGraph.NONE);
        Kit.due("46: nothing changes then", Kit.state(g), state);
        g.setCredit(1);
        Kit.due("46: one more", g.undo(), 0);
    }

    private static void undone(String what, String script, Twins.On call) {
        ShareGraph g = Kit.read(Kit.SQUARE);
        Kit.run(g, script);
        String before = Kit.state(g);
        call.make(g);
        Kit.due("46: " + what + " can be undone", g.setting(10), 2);
        Kit.due("46: " + what + " is undone", g.undo(), 1);
        Kit.due("46: all is as before " + what, Kit.state(g), before);
    }

    private static void promise46Kinds() {
        undone("shrink", "", ShareGraph::shrink);
        undone("grow", "shrink;move 1 1;", ShareGraph::grow);
        undone("move", "", g -> g.move(0, 1));
        undone("step", "", ShareGraph::step);
        undone("steps", "", g -> g.steps(5));
        undone("placeBest", "", ShareGraph::placeBest);
        undone("placeApart", "", g -> g.placeApart(2, 0));
        undone("setCredit", "", g -> g.setCredit(3));
        undone("runScript", "", g -> Kit.run(g, "shrink;move 1 1;credit 9;grow;step;"));
        undone("an empty script", "", g -> Kit.run(g, ""));
        undone("a script without a command that can be done", "", g -> Kit.run(g, "grow;"));
        undone("steps of none", "best;", g -> g.steps(5));
        undone("placeBest of none", "best;", ShareGraph::placeBest);
        undone("placeApart of none", "apart a c;", g -> g.placeApart(0, 2));
        undone("setCredit to the same", "credit 7;", g -> g.setCredit(7));
    }

    private static void promise46NotKept() {
        ShareGraph g = Kit.read(Kit.SQUARE);
        g.placeBest();
        Kit.due("46: no step is left", g.step(), ShareGraph.NONE);
        Kit.fails("46: a move that is refused", Kit.STATE, () -> g.move(0, 0));
        Kit.fails("46: a credit that is refused", Kit.ARGUMENT, () -> g.setCredit(100));
        g.report();
        g.save();
        Kit.due("46: these are not kept", g.setting(10), 1);
    }

    private static void promise46Keeps() {
        ShareGraph g = Kit.read(Kit.SQUARE);
        g.step();
        g.report();
        g.save();
        Kit.feed(g, "$");
        Kit.fails("46: an error", Kit.ARGUMENT, g::runScript);
        Kit.feed(g, "vertex a 1;");
        g.undo();
        Kit.due("46: the buffer stays", g.truncate(11), 11);
        Kit.due("46: the error stays", Kit.errorOf(g), "1 0 0");
        Kit.due("46: the report stays", g.reportByte(9), '+');
        Kit.due("46: what is saved stays", g.restore(), 5);
        g.step();
        g.restore();
        Kit.due("46: restore forgets", g.undo(), ShareGraph.NONE);
        g.step();
        g.readText();
        Kit.due("46: readText forgets", g.undo(), ShareGraph.NONE);
    }

    private static void promise47() {
        ShareGraph g = Kit.read(Kit.SQUARE);
        Kit.due("47: the cut", g.save(), 0);
        g.step();
        String state = Kit.state(g);
        Kit.due("47: the cut, in place of the earlier one", g.save(), 5);
        Kit.due("47: nothing changes", Kit.state(g), state);
        g.step();
        Kit.due("47: the later one", g.restore(), 5);
    }

    private static void promise48() {
        ShareGraph g = Kit.read(Kit.SQUARE + "credit 6;slack 1;");
        Kit.refuses("48: nothing was saved", Kit.STATE, g, g::restore);
        Kit.run(g, "shrink;move 1 1;credit 8;");
        g.undo();
        Kit.run(g, "shrink;move 1 1;credit 8;");
        g.save();
        String state = Kit.state(g);
        Kit.due("48: undo is left", g.setting(10), 1);
        Kit.feed(g, "vertex x 9;vertex y 1;edge x y 7;parts 4;");
        g.readText();
        g.step();
        g.report();
        Kit.feed(g, "(");
        Kit.fails("48: an error", Kit.ARGUMENT, g::readText);
        Kit.feed(g, "step;");
        Kit.due("48: the cut", g.restore(), 3);
        Kit.due("48: undo is forgotten", g.setting(10), 0);
        String due = state.replaceFirst("^((\\S+ ){10})1 ", "$10 ");
        Kit.due("48: all the rest is as it was saved", Kit.state(g), due);
        Kit.due("48: the buffer stays", g.truncate(5), 5);
        Kit.due("48: the error stays", Kit.errorOf(g), "1 0 0");
        Kit.due("48: the report stays", g.reportByte(3), 'y');
        g.truncate(0);
        Kit.due("48: groups of the level before", g.grow(), 4);
        g.step();
        Kit.due("48: what was saved stays", g.restore(), 3);
        Kit.due("48: all of it", Kit.state(g), due);
        Kit.due("48: names are there again", Kit.run(g, "grow;apart d a;"), 2);
        Kit.due("48: and in reports", Kit.reportOf(g).charAt(3), 'c');
    }
}
