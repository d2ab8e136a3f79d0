/**
 * The paragraphs behind the terms: which numbers are those of existing ones, which exception comes first, and that a
 * call that throws changes nothing. Each call is made on its own object, and all that a twin holds is compared.
 */
public final class RefusalsTest {
    /** All levels from 0 on, groups of several vertices, events, undo, a saved state, an error, a report, a buffer. */
    private static ShareGraph busy() {
        ShareGraph g = Kit.read(Kit.SQUARE + "credit 3;");
        g.report();
        g.move(0, 1);
        g.save();
        Kit.feed(g, "repeat 2(jump;);");
        Kit.fails("the script of the scene", Kit.ARGUMENT, g::runScript);
        g.shrink();
        g.setCredit(9);
        Kit.feed(g, "credit 4;step;");
        return g;
    }

    /** As busy, but of level 0, so that apart can be done. */
    private static ShareGraph level0() {
        ShareGraph g = busy();
        g.grow();
        return g;
    }

    private static ShareGraph threeParts() {
        ShareGraph g = Kit.read(Kit.SQUARE.replace("parts 2", "parts 3"));
        g.setCredit(3);
        g.move(1, 2);
        return g;
    }

    private static ShareGraph empty() {
        return new ShareGraph();
    }

    /** 14 vertices, 40 edges, 4 parts: the last numbers that there can be. */
    private static ShareGraph largest() {
        return Kit.read(Kit.vertices(14) + Kit.edges(40) + "parts 4;");
    }

    private static ShareGraph eightGroups() {
        ShareGraph g = Kit.read(Kit.vertices(8) + "edge a b 1;slack 9;");
        g.move(3, 1);
        return g;
    }

    private static ShareGraph full() {
        ShareGraph g = busy();
        g.truncate(0);
        for (int i = 0; i < 40; i++) {
            g.feed(0x73746570, 0x3b202020, 0x20202020, 0x20202020, 0x20202024);
        }
        return g;
    }

    public static void main(String[] args) {
        busyScene();
        ofTexts();
        ofTheGraph();
        ofTheLargestGraph();
        ofParts();
        ofGroups();
        ofSteps();
        ofEvents();
        ofNothing();
        ofChanges();
        ofMoves();
        ofApart();
        ofReports();
        firstListed();
        noneChangesNothing();
        askingChangesNothing();
        texts();
        scripts();
        lastCall();
        Kit.end("RefusalsTest");
    }

    private static void busyScene() {
        ShareGraph g = busy();
        Kit.due("the scene: groups", Kit.groups(g), "0112");
        Kit.due("the scene: parts", Kit.parts(g), "1000");
        Kit.due("the scene: error", Kit.errorOf(g), "1 9 1");
        Kit.due("the scene: undo", g.setting(10), 3);
        Kit.due("the scene: events", g.events(), 1);
        Kit.due("the scene: the buffer", g.runScript(), 2);
    }

    private static void ofTexts() {
        Twins.refuses("promise 2: feed of a full buffer", Kit.STATE, RefusalsTest::full, g -> g.feed(0, 0, 0, 0, 0));
        Twins.Scene is781 = () -> {
            ShareGraph g = full();
            g.truncate(781);
            return g;
        };
        Twins.refuses("promise 2: feed of 781 bytes", Kit.STATE, is781, g -> g.feed(-1, -1, -1, -1, -1));
        for (int n : new int[] {Integer.MIN_VALUE, -1, 15, 16, 32, 64, 800, 801, 65536, Integer.MAX_VALUE}) {
            Twins.refuses("promise 3: truncate of 14 bytes to " + n, Kit.ARGUMENT, RefusalsTest::busy, g -> g.truncate(n));
        }
        Twins.answers("promise 3: truncate to the present length", 14, RefusalsTest::busy, g -> g.truncate(14));
        Twins.answers("promise 3: truncate of nothing to nothing", 0, RefusalsTest::empty, g -> g.truncate(0));
        Twins.refuses("promise 3: truncate of nothing to 1", Kit.ARGUMENT, RefusalsTest::empty, g -> g.truncate(1));
        Twins.refuses("promise 3: truncate of 800 to 801", Kit.ARGUMENT, RefusalsTest::full, g -> g.truncate(801));
        Twins.answers("promise 3: truncate of 800 to 800", 800, RefusalsTest::full, g -> g.truncate(800));
        Twins.bounds("promise 6: error", Kit.ARGUMENT, RefusalsTest::busy, 0, 2, ShareGraph::error);
        Twins.bounds("promise 6: error", Kit.ARGUMENT, RefusalsTest::empty, 0, 2, ShareGraph::error);
    }

    private static void ofTheGraph() {
        Twins.bounds("promise 7: setting", Kit.ARGUMENT, RefusalsTest::busy, 0, 11, ShareGraph::setting);
        Twins.bounds("promise 8: weight", Kit.INDEX, RefusalsTest::busy, 0, 3, ShareGraph::weight);
        Twins.bounds("promise 9: edge", Kit.INDEX, 4, Kit.ARGUMENT, 4, RefusalsTest::busy, ShareGraph::edge);
        Twins.bounds("promise 10: between", Kit.INDEX, 4, Kit.INDEX, 4, RefusalsTest::busy, ShareGraph::between);
        Twins.bounds("promise 11: flow", Kit.INDEX, 4, Kit.INDEX, 4, RefusalsTest::busy, ShareGraph::flow);
        Twins.bounds("promise 12: side", Kit.INDEX, 4, Kit.INDEX, 4, RefusalsTest::busy, ShareGraph::side);
        Twins.OnTwo[] calls = {ShareGraph::between, ShareGraph::flow, ShareGraph::side};
        for (Twins.OnTwo call : calls) {
            for (int number : new int[] {-1, 4, 32, Integer.MAX_VALUE, Integer.MIN_VALUE}) {
                Twins.refuses("promises 10 to 12: the same, but no vertex, " + number, Kit.INDEX, RefusalsTest::busy,
                    g -> call.make(g, number, number));
            }
        }
    }

    private static void ofTheLargestGraph() {
        Twins.bounds("promise 8: weight of 14", Kit.INDEX, RefusalsTest::largest, 0, 13, ShareGraph::weight);
        Twins.bounds("promise 9: edge of 40", Kit.INDEX, RefusalsTest::largest, 0, 39, (g, n) -> g.edge(n, 3));
        Twins.bounds("promise 11: flow of 14", Kit.INDEX, RefusalsTest::largest, 0, 13, (g, n) -> g.flow(n, 5));
        Twins.bounds("promise 12: side of 14", Kit.INDEX, RefusalsTest::largest, 0, 13, (g, n) -> g.side(5, n));
        Twins.bounds("promise 14: partOf of 14", Kit.INDEX, RefusalsTest::largest, 0, 13, ShareGraph::partOf);
        Twins.bounds("promise 15: part of 4", Kit.INDEX, RefusalsTest::largest, 0, 3, (g, n) -> g.part(n, 4));
        Twins.bounds("promise 22: group of 14", Kit.INDEX, RefusalsTest::largest, 0, 13, (g, n) -> g.group(n, 3));
        Twins.bounds("promise 23: groupOf of 14", Kit.INDEX, RefusalsTest::largest, 0, 13, ShareGraph::groupOf);
        Twins.bounds("promise 25: mate of 14", Kit.INDEX, RefusalsTest::largest, 0, 13, ShareGraph::mate);
        Twins.bounds("promise 26: gain of 14", Kit.INDEX, RefusalsTest::largest, 0, 13, (g, n) -> g.gain(n, 3));
        Twins.bounds("promise 26: gain of 4 parts", Kit.INDEX, RefusalsTest::largest, 0, 3, (g, n) -> g.gain(13, n));
    }

    private static void ofParts() {
        Twins.bounds("promise 14: partOf", Kit.INDEX, RefusalsTest::busy, 0, 3, ShareGraph::partOf);
        Twins.bounds("promise 15: part", Kit.INDEX, 2, Kit.ARGUMENT, 5, RefusalsTest::busy, ShareGraph::part);
        Twins.bounds("promise 15: part of 3", Kit.INDEX, 3, Kit.ARGUMENT, 5, RefusalsTest::threeParts, ShareGraph::part);
    }

    /** In the scene there are 4 vertices, but 3 groups. */
    private static void ofGroups() {
        Twins.bounds("promise 22: group", Kit.INDEX, 3, Kit.ARGUMENT, 4, RefusalsTest::busy, ShareGraph::group);
        Twins.bounds("promise 23: groupOf", Kit.INDEX, RefusalsTest::busy, 0, 3, ShareGraph::groupOf);
        Twins.bounds("promise 25: mate", Kit.INDEX, RefusalsTest::busy, 0, 2, ShareGraph::mate);
        Twins.bounds("promise 26: gain", Kit.INDEX, 3, Kit.INDEX, 2, RefusalsTest::busy, ShareGraph::gain);
        Twins.bounds("promise 27: whyNotMove", Kit.INDEX, 3, Kit.INDEX, 2, RefusalsTest::busy, ShareGraph::whyNotMove);
        Twins.bounds("promise 28: debtsIf", Kit.INDEX, 3, Kit.INDEX, 2, RefusalsTest::busy, ShareGraph::debtsIf);
        Twins.bounds("promise 22: group of level 0", Kit.INDEX, RefusalsTest::level0, 0, 3, (g, n) -> g.group(n, 0));
        Twins.bounds("promise 25: mate of level 0", Kit.INDEX, RefusalsTest::level0, 0, 3, ShareGraph::mate);
        Twins.bounds("promise 28: debtsIf of 3 parts", Kit.INDEX, 4, Kit.INDEX, 3, RefusalsTest::threeParts,
            ShareGraph::debtsIf);
    }

    private static void ofSteps() {
        Twins.bounds("promise 32: stepsToEnd", Kit.ARGUMENT, RefusalsTest::busy, 0, 200, ShareGraph::stepsToEnd);
        Twins.bounds("promise 33: cutBehind", Kit.ARGUMENT, RefusalsTest::busy, 0, 200, ShareGraph::cutBehind);
        Twins.bounds("promise 32: stepsToEnd without an end", Kit.ARGUMENT, () -> Kit.read(GroupsTest.TWINS + "credit 5;"),
            0, 200, ShareGraph::stepsToEnd);
        Twins.bounds("promise 33: cutBehind without vertices", Kit.ARGUMENT, RefusalsTest::empty, 0, 200,
            ShareGraph::cutBehind);
    }

    private static void ofEvents() {
        Twins.bounds("promise 35: event", Kit.INDEX, 1, Kit.ARGUMENT, 4, RefusalsTest::busy, ShareGraph::event);
        Twins.Scene two = () -> {
            ShareGraph g = busy();
            g.move(2, 1);
            return g;
        };
        Twins.bounds("promise 35: event of 2", Kit.INDEX, 2, Kit.ARGUMENT, 4, two, ShareGraph::event);
    }

    /** Without vertices there is no number of a vertex, an edge, a group or an event; but there are two parts. */
    private static void ofNothing() {
        Twins.Scene none = RefusalsTest::empty;
        Twins.bounds("promise 8: weight without vertices", Kit.INDEX, none, 0, -1, ShareGraph::weight);
        Twins.bounds("promise 9: edge without edges", Kit.INDEX, none, 0, -1, (g, n) -> g.edge(n, 0));
        Twins.bounds("promise 9: edge without edges, and what", Kit.INDEX, none, 0, -1, (g, n) -> g.edge(n, 4));
        Twins.bounds("promise 10: between without vertices", Kit.INDEX, none, 0, -1, (g, n) -> g.between(n, n));
        Twins.bounds("promise 11: flow without vertices", Kit.INDEX, none, 0, -1, (g, n) -> g.flow(n, n));
        Twins.bounds("promise 12: side without vertices", Kit.INDEX, none, 0, -1, (g, n) -> g.side(n, n));
        Twins.bounds("promise 14: partOf without vertices", Kit.INDEX, none, 0, -1, ShareGraph::partOf);
        Twins.bounds("promise 15: part without vertices", Kit.INDEX, none, 0, 1, (g, n) -> g.part(n, 0));
        Twins.bounds("promise 22: group without vertices", Kit.INDEX, none, 0, -1, (g, n) -> g.group(n, 0));
        Twins.bounds("promise 23: groupOf without vertices", Kit.INDEX, none, 0, -1, ShareGraph::groupOf);
        Twins.bounds("promise 25: mate without vertices", Kit.INDEX, none, 0, -1, ShareGraph::mate);
        Twins.bounds("promise 26: gain without vertices", Kit.INDEX, none, 0, -1, (g, n) -> g.gain(n, 0));
        Twins.bounds("promise 27: whyNotMove without vertices", Kit.INDEX, none, 0, -1, (g, n) -> g.whyNotMove(n, 0));
        Twins.bounds("promise 28: debtsIf without vertices", Kit.INDEX, none, 0, -1, (g, n) -> g.debtsIf(n, 0));
        Twins.bounds("promise 35: event without events", Kit.INDEX, none, 0, -1, (g, n) -> g.event(n, 0));
        Twins.bounds("promise 35: event without events, and what", Kit.INDEX, none, 0, -1, (g, n) -> g.event(n, 4));
        Twins.bounds("promise 38: move without vertices", Kit.INDEX, none, 0, -1, (g, n) -> g.move(n, 0));
        Twins.bounds("promise 42: placeApart without vertices", Kit.INDEX, none, 0, -1, (g, n) -> g.placeApart(n, n));
        Twins.bounds("promise 45: reportByte without a report", Kit.INDEX, none, 0, -1, ShareGraph::reportByte);
    }

    private static void ofChanges() {
        Twins.Scene top = () -> {
            ShareGraph g = Kit.read(GroupsTest.STAR);
            Kit.run(g, "shrink;shrink;shrink;shrink;");
            return g;
        };
        Twins.refuses("promise 36: shrink at level 4", Kit.STATE, top, ShareGraph::shrink);
        Twins.refuses("promise 36: shrink of no groups", Kit.STATE, RefusalsTest::empty, ShareGraph::shrink);
        Twins.refuses("promise 36: shrink without joined groups", Kit.STATE,
            () -> Kit.read("vertex a 1;vertex b 1;slack 9;"), ShareGraph::shrink);
        Twins.refuses("promise 37: grow at level 0", Kit.STATE, RefusalsTest::level0, ShareGraph::grow);
        Twins.refuses("promise 37: grow of a new object", Kit.STATE, RefusalsTest::empty, ShareGraph::grow);
        for (int most : new int[] {Integer.MIN_VALUE, -1, 0, 100, 101, 257, Integer.MAX_VALUE}) {
            Twins.refuses("promise 40: steps of " + most, Kit.ARGUMENT, RefusalsTest::busy, g -> g.steps(most));
            Twins.refuses("promise 40: steps of none, " + most, Kit.ARGUMENT, RefusalsTest::empty, g -> g.steps(most));
        }
        Twins.refuses("promise 41: placeBest of 8 groups", Kit.STATE, RefusalsTest::eightGroups, ShareGraph::placeBest);
        Twins.refuses("promise 41: placeBest of 14 groups", Kit.STATE, RefusalsTest::largest, ShareGraph::placeBest);
        for (int credit : new int[] {Integer.MIN_VALUE, -1, 100, 101, 256, Integer.MAX_VALUE}) {
            Twins.refuses("promise 43: setCredit of " + credit, Kit.ARGUMENT, RefusalsTest::busy, g -> g.setCredit(credit));
        }
        Twins.refuses("promise 48: restore of a new object", Kit.STATE, RefusalsTest::empty, ShareGraph::restore);
        Twins.refuses("promise 48: restore where nothing was saved", Kit.STATE, RefusalsTest::threeParts,
            ShareGraph::restore);
    }

    private static void ofMoves() {
        int[] noGroups = {Integer.MIN_VALUE, -32, -1, 3, 4, 32, 64, 256, Integer.MAX_VALUE};
        for (int group : noGroups) {
            Twins.refuses("promise 38: move of group " + group, Kit.INDEX, RefusalsTest::busy, g -> g.move(group, 1));
        }
        for (int part : new int[] {Integer.MIN_VALUE, -32, -1, 2, 3, 4, 32, 256, Integer.MAX_VALUE}) {
            Twins.refuses("promise 38: move to part " + part, Kit.INDEX, RefusalsTest::busy, g -> g.move(1, part));
        }
        Twins.refuses("promise 38: move to where it is", Kit.STATE, RefusalsTest::busy, g -> g.move(0, 1));
        Twins.Scene poor = () -> {
            ShareGraph g = busy();
            g.setCredit(1);
            g.step();
            return g;
        };
        Twins.refuses("promise 38: move into too many debts", Kit.STATE, poor, g -> g.move(1, 1));
    }

    private static void ofApart() {
        int[] odd = {Integer.MIN_VALUE, -32, -1, 4, 5, 32, 64, 256, Integer.MAX_VALUE};
        for (int number : odd) {
            Twins.refuses("promise 42: placeApart of " + number, Kit.INDEX, RefusalsTest::level0,
                g -> g.placeApart(number, 0));
            Twins.refuses("promise 42: placeApart from " + number, Kit.INDEX, RefusalsTest::level0,
                g -> g.placeApart(0, number));
        }
        for (int vertex = 0; vertex < 4; vertex++) {
            int same = vertex;
            Twins.refuses("promise 42: placeApart of the same, " + same, Kit.ARGUMENT, RefusalsTest::level0,
                g -> g.placeApart(same, same));
        }
        Twins.refuses("promise 42: placeApart at level 1", Kit.STATE, RefusalsTest::busy, g -> g.placeApart(0, 3));
        Twins.refuses("promise 42: placeApart of 3 parts", Kit.STATE, RefusalsTest::threeParts, g -> g.placeApart(0, 3));
        Twins.refuses("promise 42: placeApart of 4 parts", Kit.STATE, RefusalsTest::largest, g -> g.placeApart(0, 13));
        Twins.Scene both = () -> {
            ShareGraph g = Kit.read(Kit.SQUARE.replace("parts 2", "parts 3") + "slack 2;");
            g.shrink();
            return g;
        };
        Twins.refuses("promise 42: placeApart of 3 parts at level 1", Kit.STATE, both, g -> g.placeApart(0, 3));
    }

    /** The report of the scene has 14 bytes. */
    private static void ofReports() {
        Twins.bounds("promise 45: reportByte", Kit.INDEX, RefusalsTest::busy, 0, 13, ShareGraph::reportByte);
        Twins.Scene shorter = () -> {
            ShareGraph g = busy();
            Kit.reportOf(g);
            g.truncate(0);
            Kit.feed(g, "");
            g.readText();
            g.report();
            return g;
        };
        Twins.bounds("promise 45: reportByte of a shorter report", Kit.INDEX, shorter, 0, 5, ShareGraph::reportByte);
    }

    /** If several exceptions apply to a call, the one that is listed first is thrown. */
    private static void firstListed() {
        Twins.Scene busy = RefusalsTest::busy;
        Twins.refuses("promise 9: edge 4, what 4", Kit.INDEX, busy, g -> g.edge(4, 4));
        Twins.refuses("promise 15: part 2, what 5", Kit.INDEX, busy, g -> g.part(2, 5));
        Twins.refuses("promise 22: group 3, what 4", Kit.INDEX, busy, g -> g.group(3, 4));
        Twins.refuses("promise 35: event 1, what 4", Kit.INDEX, busy, g -> g.event(1, 4));
        Twins.refuses("promise 38: no group, and where it is not", Kit.INDEX, busy, g -> g.move(3, 0));
        Twins.refuses("promise 38: where it is, but no part", Kit.INDEX, busy, g -> g.move(0, 2));
        Twins.refuses("promise 42: index, the same, the level", Kit.INDEX, busy, g -> g.placeApart(4, 4));
        Twins.refuses("promise 42: index of the other, the level", Kit.INDEX, busy, g -> g.placeApart(0, 4));
        Twins.refuses("promise 42: index of the first, the level", Kit.INDEX, busy, g -> g.placeApart(-1, 0));
        Twins.refuses("promise 42: the same, the level", Kit.ARGUMENT, busy, g -> g.placeApart(3, 3));
        Twins.Scene three = RefusalsTest::threeParts;
        Twins.refuses("promise 42: index, the same, 3 parts", Kit.INDEX, three, g -> g.placeApart(4, 4));
        Twins.refuses("promise 42: index, 3 parts", Kit.INDEX, three, g -> g.placeApart(0, 4));
        Twins.refuses("promise 42: the same, 3 parts", Kit.ARGUMENT, three, g -> g.placeApart(0, 0));
    }

    private static void noneChangesNothing() {
        Twins.answers("promise 39: step of none", ShareGraph.NONE, RefusalsTest::empty, ShareGraph::step);
        Twins.Scene ended = () -> {
            ShareGraph g = busy();
            g.setCredit(0);
            g.steps(99);
            return g;
        };
        Twins.answers("promise 39: step where there is none", ShareGraph.NONE, ended, ShareGraph::step);
        Twins.answers("promise 46: undo of none", ShareGraph.NONE, RefusalsTest::empty, ShareGraph::undo);
        Twins.Scene undone = () -> {
            ShareGraph g = busy();
            for (int i = 0; i < 3; i++) {
                g.undo();
            }
            return g;
        };
        Twins.answers("promise 46: undo where all is undone", ShareGraph.NONE, undone, ShareGraph::undo);
        Twins.Scene forgotten = () -> {
            ShareGraph g = busy();
            g.restore();
            return g;
        };
        Twins.answers("promise 46: undo where it is forgotten", ShareGraph.NONE, forgotten, ShareGraph::undo);
    }

    /** Nothing but a change changes something. */
    private static void askingChangesNothing() {
        Twins.On[] asked = {ShareGraph::leastFlow, ShareGraph::cut, ShareGraph::debts, ShareGraph::border,
            ShareGraph::heaviest, g -> (long) g.cutShare(), g -> (long) g.imbalance(), ShareGraph::whyNotShrink,
            ShareGraph::nextStep, ShareGraph::bestDebts, ShareGraph::bestCut, ShareGraph::events,
            g -> g.stepsToEnd(200), g -> g.cutBehind(200), g -> g.gain(2, 1), g -> g.debtsIf(2, 1), g -> g.mate(2),
            g -> g.flow(3, 0), g -> g.side(3, 0), g -> g.truncate(14)};
        for (int i = 0; i < asked.length; i++) {
            Twins.asks("promises 6 to 35: question " + i, RefusalsTest::busy, asked[i]);
            if (i < 14) {
                Twins.asks("promises 6 to 35: question " + i + " of nothing", RefusalsTest::empty, asked[i]);
                Twins.asks("promises 6 to 35: question " + i + " of 8 groups", RefusalsTest::eightGroups, asked[i]);
            }
        }
    }

    private static ShareGraph with(String text) {
        ShareGraph g = busy();
        g.truncate(0);
        Kit.feed(g, text);
        return g;
    }

    private static String allButTheError(ShareGraph g) {
        return Twins.all(g).replaceFirst(" error -?\\d+ error -?\\d+ error -?\\d+", "");
    }

    /** Only the buffer and the error change by a text that has an error. */
    private static void onlyTheError(boolean isScript, String text, String error) {
        ShareGraph g = with(text);
        String what = (isScript ? "promise 5: the script " : "promise 4: the text ") + text;
        Kit.fails(what, Kit.ARGUMENT, isScript ? g::runScript : g::readText);
        Kit.due(what + ", its error", Kit.errorOf(g), error);
        Kit.fails(what + ", the buffer behind it", Kit.ARGUMENT, () -> g.truncate(1));
        Kit.due(what + " changes nothing else", allButTheError(g), allButTheError(with("")));
    }

    private static void texts() {
        onlyTheError(false, "edge", "1 4 0");
        onlyTheError(false, "one", "1 0 0");
        onlyTheError(false, "step;", "1 0 0");
        onlyTheError(false, "vertex z 4;vertex y 5;edge y z 3;parts 4;slack 9;credit 9;vertex", "1 64 0");
        onlyTheError(false, "vertex z 4;vertex z 4;", "3 18 0");
    }

    private static void scripts() {
        onlyTheError(true, "step", "1 4 0");
        onlyTheError(true, "step;step", "1 9 0");
        onlyTheError(true, "jump;", "1 0 0");
        onlyTheError(true, "step;)", "1 5 0");
        onlyTheError(true, "credit 5;best;shrink;grow;move 0 0;apart a z;", "3 43 0");
        onlyTheError(true, "repeat 2(repeat 2(step;", "1 23 2");
    }

    /** An object is used for at most 512 calls; the last one of them still holds what is promised. */
    private static void lastCall() {
        ShareGraph g = Kit.read(Kit.SQUARE + "credit 99;");
        // The feeds of Kit.read and two calls more.
        int made = (Kit.SQUARE.length() + "credit 99;".length() + 19) / 20 + 2;
        for (int call = made + 1; call < 512; call++) {
            g.move(0, 1 - (call - made + 1) % 2);
        }
        Kit.due("promise 46: the 512th call", g.undo(), 5);
        ShareGraph h = new ShareGraph();
        for (int call = 1; call < 512; call++) {
            h.setCredit(call % 100);
        }
        Kit.due("promise 43: the 512th call", h.setCredit(1), 11);
    }
}
