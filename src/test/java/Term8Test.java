/** Term 8, undo, sentence by sentence, on both sides of each bound; with promises 43 to 48. */
public final class Term8Test {
    private static final int NONE = ShareGraph.NONE;
    private static final String FREE = Kit.SQUARE + "credit 99;slack 9;";

    public static void main(String[] args) {
        latestSix();
        ring();
        latestFirst();
        oldestGoes();
        eachKind();
        kindsThatChangeNothing();
        notKept();
        refusedNotKept();
        asBefore();
        allButFour();
        forgets();
        keepsWhenRefused();
        credits();
        creditsOfScripts();
        saves();
        savesNot();
        savedStays();
        savedLevels();
        restoresAll();
        reports();
        reportOfParts();
        reportOfMost();
        reportStays();
        reportBytes();
        Kit.end("Term8Test");
    }

    /** The latest 6 of them are kept. */
    private static void latestSix() {
        for (int calls = 0; calls <= 9; calls++) {
            ShareGraph g = new ShareGraph();
            for (int i = 1; i <= calls; i++) {
                g.setCredit(i);
                Kit.due("promise 7: can be undone behind " + i, g.setting(10), Math.min(i, 6));
            }
            int kept = Math.min(calls, 6);
            for (int left = kept - 1; left >= 0; left--) {
                Kit.due("promise 46: left of " + calls, g.undo(), left);
                Kit.due("promise 7: left of " + calls, g.setting(10), left);
                Kit.due("promise 46: the credit before", g.setting(4), calls - kept + left);
            }
            Kit.due("promise 46: none is left of " + calls, g.undo(), NONE);
            Kit.due("promise 46: nothing changes then", g.setting(4), calls - kept);
        }
    }

    /** Changes and undo in turns, so that what is kept goes round. */
    private static void ring() {
        ShareGraph g = new ShareGraph();
        java.util.List<Integer> kept = new java.util.ArrayList<>();
        int credit = 0;
        for (int i = 1; i <= 150; i++) {
            boolean isUndo = i % 7 == 3 || i % 11 > 6;
            if (isUndo) {
                int due = kept.isEmpty() ? NONE : kept.size() - 1;
                credit = kept.isEmpty() ? credit : kept.remove(kept.size() - 1);
                Kit.due("promise 46: call " + i, g.undo(), due);
            } else {
                kept.add(credit);
                if (kept.size() > 6) {
                    kept.remove(0);
                }
                Kit.due("promise 43: call " + i, g.setCredit(i % 100), credit);
                credit = i % 100;
            }
            Kit.due("promise 7: the credit behind call " + i, g.setting(4), credit);
            Kit.due("promise 7: can be undone behind call " + i, g.setting(10), kept.size());
        }
    }

    /** The latest first. */
    private static void latestFirst() {
        ShareGraph g = Kit.read(FREE);
        g.setCredit(50);
        g.move(0, 1);
        g.shrink();
        Kit.due("promise 46: first the groups", g.undo() * 10 + g.setting(8), 20);
        Kit.due("promise 46: a is still moved", g.partOf(0), 1);
        Kit.due("promise 46: then the move", g.undo() * 10 + g.partOf(0), 10);
        Kit.due("promise 46: the credit is still set", g.setting(4), 50);
        Kit.due("promise 46: then the credit", g.undo() * 100 + g.setting(4), 99);
        Kit.due("promise 46: then none", g.undo(), NONE);
    }

    /** A seventh call throws the oldest one out, also of another kind. */
    private static void oldestGoes() {
        ShareGraph g = Kit.read(FREE);
        g.shrink();
        for (int i = 0; i < 6; i++) {
            g.setCredit(i);
        }
        for (int i = 0; i < 6; i++) {
            Kit.due("promise 46: six are left", g.undo(), 5 - i);
        }
        Kit.due("promise 46: none is left", g.undo(), NONE);
        Kit.due("promise 46: the groups stay merged", g.setting(8) * 100 + g.setting(4), 199);
        Kit.due("promise 43: a new one", g.setCredit(7), 99);
        Kit.due("promise 46: is undone", g.undo(), 0);
        Kit.due("promise 46: and no more", g.undo(), NONE);
    }

    private static void undone(String what, Twins.Scene scene, Twins.On call) {
        ShareGraph g = scene.make();
        int left = g.setting(10);
        call.make(g);
        Kit.due("term 8: " + what + " can be undone", g.setting(10), left + 1);
        Kit.due("term 8: " + what + " is undone", g.undo(), left);
        Kit.due("term 8: all is as before " + what, Twins.all(g), Twins.all(scene.make()));
    }

    private static ShareGraph free() {
        return Kit.read(FREE);
    }

    private static ShareGraph level1() {
        ShareGraph g = free();
        g.move(3, 1);
        g.shrink();
        return g;
    }

    /** Each call of a method below "changes", and each call of runScript(). */
    private static void eachKind() {
        undone("shrink", Term8Test::free, ShareGraph::shrink);
        undone("grow", Term8Test::level1, ShareGraph::grow);
        undone("move", Term8Test::free, g -> g.move(2, 1));
        undone("move of two vertices", Term8Test::level1, g -> g.move(0, 1));
        undone("step", Term8Test::level1, ShareGraph::step);
        undone("steps of one", () -> Kit.read(Kit.SQUARE), g -> g.steps(1));
        undone("steps of two", () -> Kit.read(Kit.SQUARE), g -> g.steps(99));
        undone("placeBest", () -> Kit.read(Kit.SQUARE), ShareGraph::placeBest);
        undone("placeBest of groups", Term8Test::level1, ShareGraph::placeBest);
        undone("placeApart", Term8Test::free, g -> g.placeApart(3, 1));
        undone("setCredit", Term8Test::level1, g -> g.setCredit(3));
        undone("runScript of one", Term8Test::level1, g -> Kit.run(g, "grow;"));
        undone("runScript of many", Term8Test::free, g -> Kit.run(g, "repeat 9(shrink;move 1 1;grow;step;credit 8;);"));
        undone("runScript of 40", Term8Test::free, g -> Kit.run(g, "repeat 20(move 0 1;move 0 0;);"));
    }

    /** Also if nothing changes by it, as long as it returns something but NONE. */
    private static void kindsThatChangeNothing() {
        undone("steps of none", Term8Test::free, g -> g.steps(5));
        undone("placeBest of none", Term8Test::free, ShareGraph::placeBest);
        undone("setCredit to the same", Term8Test::free, g -> g.setCredit(99));
        undone("placeApart of none", () -> {
            ShareGraph g = free();
            g.placeApart(0, 2);
            return g;
        }, g -> g.placeApart(0, 2));
        undone("an empty script", Term8Test::free, ShareGraph::runScript);
        undone("a script that ends at its first command", Term8Test::free, g -> Kit.run(g, "grow;"));
        undone("a script that ends at a step of none", Term8Test::free, g -> Kit.run(g, "step;"));
        undone("steps of no groups", ShareGraph::new, g -> g.steps(1));
        undone("placeBest of no groups", ShareGraph::new, ShareGraph::placeBest);
    }

    /** What is not below "changes", and step() that returns NONE. */
    private static void notKept() {
        ShareGraph g = free();
        g.move(0, 1);
        g.placeBest();
        int kept = g.setting(10);
        Kit.due("promise 39: no step", g.step(), NONE);
        Twins.On[] calls = {g2 -> g2.feed(0, 0, 0, 0, 0), g2 -> g2.truncate(0), g2 -> g2.error(0), g2 -> g2.setting(0),
            g2 -> g2.weight(0), g2 -> g2.edge(0, 0), g2 -> g2.flow(0, 1), g2 -> g2.side(0, 1), ShareGraph::leastFlow,
            g2 -> g2.part(0, 0), ShareGraph::cut, ShareGraph::border, g2 -> g2.mate(0), ShareGraph::nextStep,
            ShareGraph::bestDebts, ShareGraph::bestCut, g2 -> g2.stepsToEnd(9), g2 -> g2.cutBehind(9), ShareGraph::events,
            g2 -> g2.event(0, 0), ShareGraph::report, g2 -> g2.reportByte(0), ShareGraph::save};
        for (int i = 0; i < calls.length; i++) {
            calls[i].make(g);
            Kit.due("term 8: call " + i + " is not kept", g.setting(10), kept);
        }
        Kit.due("promise 46: the latest one", g.undo(), kept - 1);
        Kit.due("promise 46: was placeBest", g.partOf(0), 1);
        Kit.due("promise 46: undo is not kept either", g.setting(10), kept - 1);
    }

    private static void refusedNotKept() {
        ShareGraph g = free();
        g.move(0, 1);
        Kit.fails("promise 37: level 0", Kit.STATE, g::grow);
        Kit.fails("promise 38: it is there", Kit.STATE, () -> g.move(0, 1));
        Kit.fails("promise 38: no group", Kit.INDEX, () -> g.move(9, 1));
        Kit.fails("promise 40: no steps", Kit.ARGUMENT, () -> g.steps(0));
        Kit.fails("promise 42: the same", Kit.ARGUMENT, () -> g.placeApart(0, 0));
        Kit.fails("promise 43: no credit", Kit.ARGUMENT, () -> g.setCredit(100));
        Kit.feed(g, "step;$");
        Kit.fails("promise 5: an error", Kit.ARGUMENT, g::runScript);
        Kit.due("term 8: none of these is kept", g.setting(10), 1);
        Kit.due("promise 46: the move", g.undo(), 0);
        Kit.due("promise 46: is undone", Kit.parts(g), "0000");
    }

    /** All is as before it then: groups of all levels, parts, the credit, events. */
    private static void asBefore() {
        ShareGraph g = Kit.read(GroupsTest.STAR + "credit 44;");
        Kit.run(g, "shrink;shrink;move 1 1;");
        String state = Kit.state(g);
        Kit.run(g, "grow;grow;move 6 1;shrink;shrink;shrink;credit 5;move 0 1;");
        Kit.due("promise 46: undone", g.undo(), 1);
        Kit.due("promise 46: all is as before", Kit.state(g), state);
        Kit.due("promise 46: also the level below", g.grow(), 6);
        Kit.due("promise 46: its groups", Kit.groups(g), "0123450");
        Kit.due("promise 46: and back", g.undo(), 1);
        Kit.due("promise 46: all is as before", Kit.state(g), state);
    }

    /** But the report, the buffer, the error and what is saved. */
    private static void allButFour() {
        ShareGraph g = free();
        Kit.feed(g, "step;$");
        Kit.fails("promise 5: an error", Kit.ARGUMENT, g::runScript);
        g.move(0, 1);
        g.report();
        g.save();
        Kit.feed(g, " $");
        Kit.fails("promise 5: another one", Kit.ARGUMENT, g::runScript);
        Kit.feed(g, "credit 3;");
        Kit.due("promise 46: the move", g.undo(), 0);
        Kit.due("term 8: the error stays", Kit.errorOf(g), "1 1 0");
        Kit.due("term 8: the report stays", g.reportByte(2) * 1000 + g.reportByte(3), ' ' * 1000 + 'b');
        Kit.due("term 8: the buffer stays", g.truncate(9), 9);
        Kit.due("term 8: the part does not", g.partOf(0), 0);
        Kit.due("term 8: it can be run", g.runScript(), 1);
        Kit.due("term 8: what is saved stays", g.restore(), 7);
        Kit.due("term 8: with a in part 1", Kit.parts(g), "1000");
    }

    /** readText() and restore() forget them. */
    private static void forgets() {
        ShareGraph g = free();
        g.save();
        for (int i = 0; i < 7; i++) {
            g.setCredit(i);
        }
        g.restore();
        Kit.due("term 8: restore forgets six", g.setting(10), 0);
        Kit.due("promise 46: none is left", g.undo(), NONE);
        g.setCredit(8);
        Kit.due("term 8: one more", g.setting(10), 1);
        Kit.due("promise 46: is undone", g.undo() * 100 + g.setting(4), 99);
        g.setCredit(9);
        g.setCredit(10);
        g.readText();
        Kit.due("term 8: readText forgets two", g.setting(10), 0);
        Kit.due("promise 46: none is left", g.undo(), NONE);
        g.setCredit(8);
        Kit.due("promise 46: one more", g.undo() * 100 + g.setting(4), 0);
    }

    private static void keepsWhenRefused() {
        ShareGraph g = free();
        g.setCredit(5);
        Kit.fails("promise 48: nothing was saved", Kit.STATE, g::restore);
        Kit.due("term 8: a refused restore forgets nothing", g.setting(10), 1);
        Kit.feed(g, "vertex");
        Kit.fails("promise 4: an error", Kit.ARGUMENT, g::readText);
        Kit.due("term 8: a text with an error forgets nothing", g.setting(10), 1);
        Kit.due("promise 46: it is undone", g.undo() * 100 + g.setting(4), 99);
    }

    /** Promise 43: 0 to 99; the previous one is returned. */
    private static void credits() {
        ShareGraph g = Kit.read("credit 42;");
        int before = 42;
        for (int credit : new int[] {0, 1, 98, 99, 99, 0}) {
            Kit.due("promise 43: the previous one", g.setCredit(credit), before);
            Kit.due("promise 7: the credit", g.setting(4), credit);
            before = credit;
        }
        for (int credit : new int[] {-1, 100, Integer.MAX_VALUE, Integer.MIN_VALUE}) {
            Kit.refuses("promise 43: " + credit, Kit.ARGUMENT, g, () -> g.setCredit(credit));
        }
        Kit.due("promise 43: the limit stays", Kit.read("vertex a 5;credit 99;").setting(5), 3);
    }

    private static void creditsOfScripts() {
        ShareGraph g = Kit.read("credit 42;");
        Kit.due("promise 5: two credits", Kit.run(g, "credit 0;credit 99;credit 100;"), 2);
        Kit.due("promise 43: the previous one", g.setCredit(5), 99);
        g.undo();
        g.undo();
        Kit.due("promise 46: that of the text", g.setting(4), 42);
    }

    /** Promise 47: all but the buffer, the error, the report, what can be undone and what is saved; the cut. */
    private static void saves() {
        ShareGraph g = Kit.read(Kit.SQUARE);
        Kit.fails("promise 48: nothing was saved", Kit.STATE, g::restore);
        Kit.due("promise 47: the cut", g.save(), 0);
        Kit.due("promise 48: the cut", g.restore(), 0);
        g.step();
        Kit.due("promise 47: the cut", g.save(), 5);
        g.step();
        Kit.due("promise 48: in place of the earlier one", g.restore(), 5);
        Kit.due("promise 48: its parts", Kit.parts(g), "0010");
        ShareGraph none = new ShareGraph();
        Kit.due("promise 47: of nothing", none.save(), 0);
        Kit.feed(none, Kit.SQUARE);
        none.readText();
        Kit.due("promise 48: to nothing", none.restore(), 0);
        Kit.due("promise 48: no vertices", none.setting(0), 0);
        Kit.fails("promise 48: no names either", Kit.ARGUMENT, () -> Kit.run(none, "apart a b;"));
    }

    /** A save changes nothing else, and a restore leaves the buffer, the error and the report. */
    private static void savesNot() {
        ShareGraph g = free();
        g.move(0, 1);
        g.report();
        Kit.feed(g, "$");
        Kit.fails("promise 5: an error", Kit.ARGUMENT, g::runScript);
        Kit.feed(g, "credit 1;");
        String state = Kit.state(g);
        g.save();
        Kit.due("promise 47: nothing changes", Kit.state(g), state);
        Kit.due("promise 47: the error stays", Kit.errorOf(g), "1 0 0");
        Kit.due("promise 47: the buffer stays", g.truncate(9), 9);
        g.runScript();
        g.setCredit(2);
        g.report();
        Kit.feed(g, "  $");
        Kit.fails("promise 4: an error", Kit.ARGUMENT, g::readText);
        Kit.feed(g, "step;");
        Kit.due("promise 48: the cut", g.restore(), 7);
        Kit.due("promise 48: the error is not restored", Kit.errorOf(g), "1 2 0");
        Kit.due("promise 48: the buffer is not restored", g.truncate(5), 5);
        Kit.due("promise 48: the report is not restored", g.reportByte(3), 'b');
        Kit.due("promise 48: undo is not restored", g.setting(10), 0);
    }

    /** Promise 48: what was saved stays, whatever comes behind. */
    private static void savedStays() {
        ShareGraph g = free();
        g.move(0, 1);
        g.save();
        String state = Kit.state(g).replaceFirst("^((\\S+ ){10})1 ", "$10 ");
        for (int i = 0; i < 3; i++) {
            g.restore();
            Kit.due("promise 48: restored " + i, Kit.state(g), state);
            Kit.run(g, i == 0 ? "move 1 1;shrink;credit 3;" : "best;apart d a;step;");
            if (i == 1) {
                Kit.feed(g, "vertex z 9;vertex y 9;edge y z 9;parts 4;slack 1;credit 2;");
                g.readText();
            }
        }
        g.undo();
        g.restore();
        Kit.due("promise 48: restored at last", Kit.state(g), state);
    }

    /** The groups of all levels are saved. */
    private static void savedLevels() {
        ShareGraph g = Kit.read(GroupsTest.STAR);
        Kit.run(g, "shrink;shrink;shrink;shrink;");
        g.save();
        Kit.feed(g, Kit.vertices(7) + "edge c d 1;edge e f 1;slack 9;");
        g.readText();
        Kit.run(g, "shrink;move 0 1;");
        g.restore();
        String[] groups = {"0123450", "0123400", "0123000", "0120000"};
        for (int level = 4; level >= 1; level--) {
            Kit.due("promise 48: level", g.setting(8), level);
            Kit.due("promise 48: groups of level " + level, Kit.groups(g), groups[level - 1]);
            g.grow();
        }
        Kit.due("promise 48: groups of level 0", Kit.groups(g), "0123456");
    }

    private static void restoresAll() {
        Twins.Scene scene = () -> {
            ShareGraph g = Kit.read(FREE.replace("parts 2", "parts 3"));
            Kit.run(g, "move 3 2;shrink;credit 17;move 0 1;");
            g.save();
            return g;
        };
        ShareGraph once = scene.make();
        once.restore();
        ShareGraph later = scene.make();
        Kit.feed(later, Kit.vertices(14) + Kit.edges(40) + "parts 4;slack 5;credit 6;");
        later.readText();
        later.steps(99);
        later.restore();
        Kit.due("promise 48: behind another text", Twins.all(later), Twins.all(once));
    }

    /** Promise 44: each part, its number, a colon, a space and the name of each vertex, a plus sign, a line feed. */
    private static void reports() {
        Kit.due("promise 44: no vertices", Kit.reportOf(new ShareGraph()), "0:\n1:\n");
        Kit.due("promise 44: no vertices, 3 parts", Kit.reportOf(Kit.read("parts 3;")), "0:\n1:\n2:\n");
        Kit.due("promise 44: no vertices, 4 parts", Kit.reportOf(Kit.read("parts 4;")), "0:\n1:\n2:\n3:\n");
        Kit.due("promise 44: its bytes", new ShareGraph().report(), 6);
        Kit.due("promise 44: one vertex", Kit.reportOf(Kit.read("vertex a 1;")), "0: a\n1:\n");
        Kit.due("promise 44: a long name", Kit.reportOf(Kit.read("vertex abcdefgh 1;")), "0: abcdefgh\n1:\n");
        Kit.due("promise 44: in order of numbers", Kit.reportOf(Kit.read("vertex z 1;vertex b 1;vertex a 1;")),
            "0: z b a\n1:\n");
    }

    private static void reportOfParts() {
        ShareGraph g = Kit.read("vertex zz 1;vertex y 1;vertex xxx 1;vertex w 1;edge zz xxx 1;parts 4;credit 99;");
        Kit.due("promise 44: no border", Kit.reportOf(g), "0: zz y xxx w\n1:\n2:\n3:\n");
        g.move(1, 3);
        Kit.due("promise 44: y is in no border", Kit.reportOf(g), "0: zz xxx w\n1:\n2:\n3: y\n");
        g.move(2, 3);
        Kit.due("promise 44: zz and xxx are", Kit.reportOf(g), "0: zz+ w\n1:\n2:\n3: y xxx+\n");
        g.move(0, 1);
        Kit.due("promise 44: by other parts", Kit.reportOf(g), "0: w\n1: zz+\n2:\n3: y xxx+\n");
        g.move(0, 3);
        Kit.due("promise 44: together again", Kit.reportOf(g), "0: w\n1:\n2:\n3: zz y xxx\n");
    }

    /** The longest report: 14 names of 8 letters in the border, in 4 parts. */
    private static void reportOfMost() {
        StringBuilder text = new StringBuilder("parts 4;credit 99;slack 99;");
        StringBuilder due = new StringBuilder("0:");
        for (int i = 0; i < 14; i++) {
            text.append("vertex ").append(name(i)).append(" 1;");
            due.append(i == 13 ? "\n1:\n2:\n3: " : " ").append(name(i)).append('+');
        }
        for (int i = 0; i < 13; i++) {
            text.append("edge ").append(name(i)).append(' ').append(name(13)).append(" 1;");
        }
        ShareGraph g = Kit.read(text.toString());
        g.move(13, 3);
        Kit.due("promise 44: the longest one", g.report(), 4 * 3 + 14 * 10);
        Kit.due("promise 44: the longest one", Kit.reportOf(g), due + "\n");
    }

    private static String name(int i) {
        return "abcdefg" + (char) ('a' + i);
    }

    /** A report is left as it is by all but the next one. */
    private static void reportStays() {
        ShareGraph g = free();
        String report = Kit.reportOf(g);
        g.save();
        g.move(0, 1);
        g.undo();
        g.restore();
        Kit.run(g, "move 1 1;best;");
        Kit.feed(g, "$");
        Kit.fails("promise 4: an error", Kit.ARGUMENT, g::readText);
        Kit.feed(g, "vertex z 1;");
        g.readText();
        for (int i = 0; i < report.length(); i++) {
            Kit.due("promise 45: byte " + i, g.reportByte(i), report.charAt(i));
        }
        Kit.fails("promise 45: behind it", Kit.INDEX, () -> g.reportByte(report.length()));
        Kit.due("promise 44: in place of the one before", Kit.reportOf(g), "0: z\n1:\n");
    }

    /** Promise 45. */
    private static void reportBytes() {
        ShareGraph g = new ShareGraph();
        Kit.fails("promise 45: there was no report", Kit.INDEX, () -> g.reportByte(0));
        Kit.fails("promise 45: there was no report", Kit.INDEX, () -> g.reportByte(-1));
        g.report();
        int[] due = {'0', ':', '\n', '1', ':', '\n'};
        for (int i = 0; i < 6; i++) {
            Kit.due("promise 45: byte " + i, g.reportByte(i), due[i]);
        }
        for (int i : new int[] {-1, 6, 7, 152, 1000, Integer.MAX_VALUE, Integer.MIN_VALUE}) {
            Kit.fails("promise 45: no byte " + i, Kit.INDEX, () -> g.reportByte(i));
        }
    }
}
