/**
 * Promises 4, 46 and 48: behind a text, one with an error, undo or restore each question is answered as if nothing had
 * been before.
 */
public final class AnswersTest {
    /** Its third edge is one between two vertices of the small text, which has but two edges, and not this one. */
    private static final String LARGE = Kit.vertices(14).replace(" 1;", " 7;") + "edge b n 5;edge a n 5;edge a b 5;"
        + "edge a c 5;edge c b 5;edge c d 5;edge d m 5;edge k l 5;parts 4;slack 9;credit 99;";
    private static final String SMALL = "vertex x 2;vertex y 3;vertex z 4;edge y z 3;edge x z 1;parts 3;slack 3;";

    private static final String CHANGES = "credit 98;move 0 1;move 0 2;move 0 0;steps 9;";

    public static void main(String[] args) {
        for (String script : new String[] {"", "move 2 1;", "move 1 1;", "shrink;", "shrink;move 1 2;",
            "move 0 2;move 1 1;credit 3;", "best;", "steps 9;"}) {
            behindALargeText(script);
            behindNothing(script);
            behindErrors(script);
            behindUndo(script);
            behindRestore(script);
        }
        behindOtherQuestions();
        Kit.end("AnswersTest");
    }

    /** All answers of the graph, parts, groups and moves. */
    static String answers(ShareGraph g) {
        StringBuilder text = new StringBuilder();
        int vertices = g.setting(0);
        for (int what = 0; what < 12; what++) {
            text.append(what == 10 ? 0 : g.setting(what)).append(' ');
        }
        for (int v = 0; v < vertices; v++) {
            text.append('v').append(g.weight(v)).append(g.partOf(v)).append(g.groupOf(v));
            for (int w = 0; w < vertices; w++) {
                text.append(' ').append(g.between(v, w)).append(' ').append(g.flow(v, w)).append(' ').append(g.side(v, w));
            }
        }
        int edges = g.setting(1);
        for (int edge = 0; edge < edges; edge++) {
            text.append('e').append(g.edge(edge, 0)).append(g.edge(edge, 1)).append(g.edge(edge, 2)).append(g.edge(edge, 3));
        }
        parts(g, text);
        groups(g, text);
        return text.toString();
    }

    private static void parts(ShareGraph g, StringBuilder text) {
        int parts = g.setting(2);
        for (int part = 0; part < parts; part++) {
            for (int what = 0; what < 5; what++) {
                text.append(" p").append(g.part(part, what));
            }
        }
        text.append(" flow ").append(g.leastFlow()).append(" cut ").append(g.cut()).append(" debts ").append(g.debts());
        text.append(" border ").append(g.border()).append(" heaviest ").append(g.heaviest());
        text.append(' ').append(g.cutShare()).append(' ').append(g.imbalance()).append(Kit.reportOf(g));
    }

    private static void groups(ShareGraph g, StringBuilder text) {
        int groups = g.setting(9);
        int parts = g.setting(2);
        for (int group = 0; group < groups; group++) {
            text.append(" mate ").append(g.mate(group));
            for (int what = 0; what < 4; what++) {
                text.append(" g").append(g.group(group, what));
            }
            for (int part = 0; part < parts; part++) {
                text.append(' ').append(g.gain(group, part)).append(' ').append(g.whyNotMove(group, part));
                text.append(' ').append(g.debtsIf(group, part));
            }
        }
        text.append(" shrink ").append(g.whyNotShrink()).append(" next ").append(g.nextStep());
        text.append(" best ").append(g.bestDebts()).append(' ').append(g.bestCut());
        text.append(" end ").append(g.stepsToEnd(200)).append(' ').append(g.cutBehind(1)).append(' ').append(g.cutBehind(200));
    }

    private static String due(String... scripts) {
        ShareGraph g = Kit.read(SMALL);
        for (String script : scripts) {
            Kit.run(g, script);
        }
        return answers(g);
    }

    private static void behindALargeText(String script) {
        ShareGraph g = Kit.read(LARGE);
        Kit.run(g, "apart a b;move 13 3;move 3 2;shrink;shrink;move 0 3;");
        g.leastFlow();
        g.report();
        Kit.feed(g, SMALL);
        g.readText();
        Kit.run(g, script);
        Kit.due("promise 4: behind a large text, " + script, answers(g), due(script));
    }

    private static void behindNothing(String script) {
        ShareGraph g = Kit.read(SMALL);
        Kit.run(g, script);
        g.readText();
        Kit.due("promise 4: behind an empty text, " + script, answers(g), answers(new ShareGraph()));
    }

    /** A text that has an error is nothing to the graph, however much of it was read before the error. */
    private static void behindErrors(String script) {
        for (String wrong : new String[] {"$", "parts 2;slack 99;credit 99;vertex y 9;$", LARGE + "$"}) {
            ShareGraph g = Kit.read(SMALL);
            Kit.run(g, script);
            Kit.feed(g, wrong);
            Kit.fails("promise 4: an error", Kit.ARGUMENT, g::readText);
            Kit.due("promise 4: behind a text with an error, " + script, answers(g), due(script));
            g.save();
            Kit.run(g, CHANGES);
            Kit.due("promise 4: changes behind a text with an error, " + script, answers(g), due(script, CHANGES));
            g.restore();
            Kit.due("promise 48: what was saved behind it, " + script, answers(g), due(script));
            Kit.run(g, "shrink;");
            Kit.due("promise 36: groups behind a text with an error, " + script, answers(g), due(script, "shrink;"));
        }
        ShareGraph two = Kit.read(SMALL.replace("parts 3", "parts 2"));
        Kit.feed(two, LARGE + "$");
        Kit.fails("promise 4: an error", Kit.ARGUMENT, two::readText);
        Kit.due("promise 42: 2 parts as before the text with an error", two.placeApart(0, 2), 2);
        ShareGraph three = Kit.read(SMALL);
        Kit.feed(three, "parts 2;$");
        Kit.fails("promise 4: an error", Kit.ARGUMENT, three::readText);
        Kit.fails("promise 42: 3 parts as before the text with an error", Kit.STATE, () -> three.placeApart(0, 2));
    }

    private static void behindUndo(String script) {
        ShareGraph g = Kit.read(SMALL);
        Kit.run(g, script);
        Kit.run(g, "shrink;move 0 1;credit 9;");
        Kit.run(g, "best;credit 2;grow;apart x y;");
        g.undo();
        g.undo();
        Kit.due("promise 46: behind undo, " + script, answers(g), due(script));
    }

    private static void behindRestore(String script) {
        ShareGraph g = Kit.read(SMALL);
        Kit.run(g, script);
        g.save();
        Kit.feed(g, LARGE);
        g.readText();
        g.steps(99);
        g.shrink();
        g.restore();
        Kit.due("promise 48: behind restore, " + script, answers(g), due(script));
    }

    /** No answer leans on the question before: each one is asked behind those that try other sharings. */
    private static void behindOtherQuestions() {
        Twins.On[] asked = {g -> g.part(1, 0), g -> g.part(0, 1), g -> g.part(2, 2), g -> g.part(0, 3), g -> g.part(2, 4),
            ShareGraph::cut, ShareGraph::debts, ShareGraph::border, ShareGraph::heaviest, g -> (long) (g.cutShare() * 4),
            g -> (long) (g.imbalance() * 9), g -> g.group(2, 2), g -> g.group(1, 3), g -> g.gain(2, 1), g -> g.gain(0, 2),
            g -> g.whyNotMove(0, 2), g -> g.debtsIf(1, 2), g -> g.mate(1), ShareGraph::whyNotShrink, ShareGraph::nextStep,
            ShareGraph::bestDebts, ShareGraph::bestCut, g -> g.stepsToEnd(0), g -> g.cutBehind(0), g -> g.flow(0, 1),
            g -> g.side(2, 0), ShareGraph::leastFlow};
        for (int i = 0; i < asked.length; i++) {
            ShareGraph fresh = scene();
            long due = asked[i].make(fresh);
            ShareGraph g = scene();
            g.stepsToEnd(200);
            Kit.due("promises 11 to 33: behind stepsToEnd, question " + i, asked[i].make(g), due);
            g.cutBehind(1);
            Kit.due("promises 11 to 33: behind cutBehind, question " + i, asked[i].make(g), due);
            g.bestCut();
            g.side(1, 2);
            Kit.due("promises 11 to 33: behind bestCut, question " + i, asked[i].make(g), due);
            Kit.run(g, "best;steps 9;shrink;");
            g.undo();
            Kit.due("promises 11 to 33: behind undo, question " + i, asked[i].make(g), due);
            g.save();
            Kit.feed(g, LARGE);
            g.readText();
            g.mate(3);
            g.leastFlow();
            g.nextStep();
            g.restore();
            Kit.due("promises 11 to 33: behind restore, question " + i, asked[i].make(g), due);
        }
    }

    /** Three groups that a step or the best sharing would change. */
    private static ShareGraph scene() {
        ShareGraph g = Kit.read("vertex x 2;vertex y 3;vertex z 4;edge y z 3;edge x z 1;parts 3;credit 99;");
        Kit.run(g, "move 1 2;move 0 2;");
        return g;
    }
}
