/** Term 6, events, sentence by sentence, on both sides of each bound; with promises 34 and 35. */
public final class Term6Test {
    private static final String FREE = Kit.SQUARE + "credit 99;slack 9;";

    public static void main(String[] args) {
        noted();
        notNoted();
        numbers();
        byNumber();
        groupsOfLevels();
        ofSteps();
        ofScripts();
        latestThirty();
        thrownOut();
        manyByOneCall();
        undone();
        forgotten();
        savedEvents();
        Kit.end("Term6Test");
    }

    /** An event is noted when a group changes its part. */
    private static void noted() {
        ShareGraph g = Kit.read(FREE);
        Kit.due("promise 34: none", g.events(), 0);
        g.move(1, 1);
        Kit.due("promise 34: one by move", g.events(), 1);
        g.step();
        Kit.due("promise 34: one by step", g.events(), 2);
        g.steps(99);
        Kit.due("promise 34: none by steps that are not there", g.events(), 2);
        g.placeApart(0, 3);
        Kit.due("promise 34: two by placeApart", g.events(), 4);
        g.placeBest();
        Kit.due("promise 34: two by placeBest", g.events(), 6);
        Kit.run(g, "move 0 1;move 1 1;");
        Kit.due("promise 34: two by a script", g.events(), 8);
    }

    private static void notNoted() {
        ShareGraph g = Kit.read(FREE);
        g.shrink();
        g.grow();
        g.setCredit(3);
        g.placeBest();
        g.steps(5);
        g.step();
        g.save();
        g.report();
        g.stepsToEnd(200);
        g.cutBehind(200);
        g.bestCut();
        Kit.run(g, "shrink;grow;best;steps 4;credit 99;");
        Kit.fails("promise 38: a refused move", Kit.STATE, () -> g.move(0, 0));
        Kit.due("term 6: no group has changed its part", g.events(), 0);
        Kit.fails("promise 35: no event", Kit.INDEX, () -> g.event(0, 0));
    }

    /** The number of the group, the part before and the part behind, and the cut behind it. */
    private static void numbers() {
        ShareGraph g = Kit.read(Kit.SQUARE.replace("parts 2", "parts 4") + "credit 99;slack 9;");
        g.move(3, 2);
        Kit.due("term 6: d from 0 to 2", Kit.event(g, 0), "3 0 2 6");
        g.move(3, 3);
        Kit.due("term 6: d from 2 to 3", Kit.event(g, 0), "3 2 3 6");
        g.move(0, 3);
        Kit.due("term 6: a from 0 to 3", Kit.event(g, 0), "0 0 3 9");
        g.move(3, 0);
        Kit.due("term 6: d from 3 to 0", Kit.event(g, 0), "3 3 0 7");
        Kit.due("term 6: the one before", Kit.event(g, 1), "0 0 3 9");
        Kit.due("term 6: the first one is the last number", Kit.event(g, 3), "3 0 2 6");
        for (int what = -1; what <= 4; what++) {
            int number = what;
            if (what < 0 || what > 3) {
                Kit.fails("promise 35: what " + what, Kit.ARGUMENT, () -> g.event(3, number));
                Kit.fails("promise 35: event 4, what " + what, Kit.INDEX, () -> g.event(4, number));
            }
        }
        Kit.refuses("promise 35: event 4", Kit.INDEX, g, () -> g.event(4, 0));
        Kit.refuses("promise 35: event -1", Kit.INDEX, g, () -> g.event(-1, 0));
    }

    /** If several change by one call: one after the other, by number, as if they changed one after the other. */
    private static void byNumber() {
        ShareGraph g = Kit.read(Kit.vertices(4) + "edge a b 5;edge b c 2;edge c d 4;edge d a 8;");
        Kit.due("promise 42: all but c", g.placeApart(2, 0), 3);
        Kit.due("term 6: a first, alone in part 1", Kit.event(g, 2), "0 0 1 13");
        Kit.due("term 6: then b", Kit.event(g, 1), "1 0 1 10");
        Kit.due("term 6: then d", Kit.event(g, 0), "3 0 1 6");
        Kit.due("promise 41: all but b", g.placeBest(), 3);
        Kit.due("term 6: a first", Kit.event(g, 2), "0 1 0 19");
        Kit.due("term 6: then c", Kit.event(g, 1), "2 0 1 13");
        Kit.due("term 6: then d", Kit.event(g, 0), "3 1 0 9");
        Kit.due("term 6: all events", g.events(), 6);
    }

    private static void groupsOfLevels() {
        ShareGraph g = Kit.read("vertex a 3;vertex b 2;vertex c 2;vertex d 3;edge b c 9;edge d c 2;slack 5;credit 99;");
        g.shrink();
        Kit.due("term 3: groups", Kit.groups(g), "0112");
        g.move(1, 1);
        Kit.due("term 6: a group of two vertices is one event", g.events(), 1);
        Kit.due("term 6: its number", Kit.event(g, 0), "1 0 1 2");
        g.move(2, 1);
        Kit.due("term 6: group 2 is vertex 3", Kit.event(g, 0), "2 0 1 0");
        g.grow();
        Kit.due("term 6: the number stays at the next level", Kit.event(g, 0), "2 0 1 0");
        g.move(3, 0);
        Kit.due("term 6: now it is 3", Kit.event(g, 0), "3 1 0 2");
    }

    private static void ofSteps() {
        ShareGraph one = Kit.read(Kit.vertices(9) + Kit.edges(8) + "parts 3;");
        ShareGraph all = Kit.read(Kit.vertices(9) + Kit.edges(8) + "parts 3;");
        int made = all.steps(99);
        for (int i = 0; i < made; i++) {
            one.step();
        }
        Kit.due("term 6: steps and as many times step", one.events(), all.events());
        for (int i = 0; i < made; i++) {
            Kit.due("term 6: event " + i, Kit.event(all, i), Kit.event(one, i));
        }
    }

    private static void ofScripts() {
        ShareGraph scripted = Kit.read(FREE);
        ShareGraph called = Kit.read(FREE);
        Kit.run(scripted, "move 3 1;move 0 1;apart c a;best;shrink;move 1 1;grow;move 2 0;");
        called.move(3, 1);
        called.move(0, 1);
        called.placeApart(2, 0);
        called.placeBest();
        called.shrink();
        called.move(1, 1);
        called.grow();
        called.move(2, 0);
        Kit.due("term 6: each command notes its events", scripted.events(), called.events());
        for (int i = 0; i < called.events(); i++) {
            Kit.due("term 6: event " + i + " of the script", Kit.event(scripted, i), Kit.event(called, i));
        }
    }

    /** The latest 30 events are kept. */
    private static void latestThirty() {
        ShareGraph g = Kit.read(FREE);
        for (int i = 1; i <= 70; i++) {
            g.move(0, i % 2);
            Kit.due("promise 34: behind " + i + " moves", g.events(), Math.min(i, 30));
            int last = g.events() - 1;
            Kit.due("promise 35: the latest one", g.event(0, 2), i % 2);
            Kit.due("promise 35: the oldest one", g.event(last, 2), (i - last) % 2);
        }
        Kit.fails("promise 35: event 30", Kit.INDEX, () -> g.event(30, 0));
        Kit.due("promise 35: event 29", g.event(29, 0), 0);
    }

    /** The oldest one goes when a 31st comes. */
    private static void thrownOut() {
        ShareGraph g = Kit.read(Kit.vertices(14) + "credit 99;slack 99;parts 4;");
        for (int i = 0; i < 33; i++) {
            int group = i % 14;
            g.move(group, (g.partOf(group) + 1) % 4);
            int oldest = Math.max(0, i - 29);
            Kit.due("term 6: the oldest one behind " + (i + 1), g.event(Math.min(i, 29), 0), oldest % 14);
            Kit.due("term 6: its part before", g.event(Math.min(i, 29), 1), oldest / 14);
            Kit.due("term 6: the latest one", g.event(0, 0), group);
        }
        for (int i = 0; i < 30; i++) {
            Kit.due("term 6: event " + i + " of 30", g.event(i, 0), (32 - i) % 14);
        }
    }

    /** 99 steps by one call, or 13 vertices three times: the first of them are not kept either. */
    private static void manyByOneCall() {
        ShareGraph g = Kit.read(GroupsTest.TWINS + "credit 5;");
        g.move(0, 1);
        Kit.due("promise 40: steps without an end", g.steps(99), 99);
        Kit.due("term 6: 30 of 100", g.events(), 30);
        Kit.due("term 6: the latest one", Kit.event(g, 0), "0 1 0 0");
        Kit.due("term 6: the oldest one", Kit.event(g, 29), "0 0 1 5");
        Kit.due("promise 46: undone as one", g.undo(), 1);
        Kit.due("term 6: one is left", g.events(), 1);
        ShareGraph all = Kit.read(Kit.vertices(14));
        Kit.run(all, "apart a b;apart b a;apart a b;apart b a;apart b a;");
        Kit.due("term 6: 13 and 2 and 2 and 2 and none", all.events(), 19);
        Kit.run(all, "repeat 6(apart a b;apart b a;);");
        Kit.due("term 6: 24 more", all.events(), 30);
        Kit.due("term 6: the latest one, b", all.event(0, 0) * 10 + all.event(0, 2), 10);
        Kit.due("term 6: the 13 of the first call are gone", all.event(29, 0), 0);
    }

    /** Promise 46: all is as before it. */
    private static void undone() {
        ShareGraph g = Kit.read(FREE);
        for (int i = 1; i <= 30; i++) {
            g.move(i % 4, 1 - g.partOf(i % 4));
        }
        String[] events = new String[30];
        for (int i = 0; i < 30; i++) {
            events[i] = Kit.event(g, i);
        }
        g.placeApart(0, 2);
        g.move(0, 1);
        g.undo();
        g.undo();
        Kit.due("promise 46: 30 events again", g.events(), 30);
        for (int i = 0; i < 30; i++) {
            Kit.due("promise 46: event " + i + " is back", Kit.event(g, i), events[i]);
        }
        g.undo();
        Kit.due("promise 46: 29 events", g.events(), 29);
        Kit.due("promise 46: the latest one before", Kit.event(g, 0), events[1]);
        Kit.fails("promise 46: the oldest one is none now", Kit.INDEX, () -> g.event(29, 0));
    }

    /** Promise 4: a text replaces them; one that has an error does not. */
    private static void forgotten() {
        ShareGraph g = Kit.read(FREE);
        g.move(0, 1);
        Kit.feed(g, "$");
        Kit.fails("promise 4: an error", Kit.ARGUMENT, g::readText);
        Kit.due("promise 4: the event stays", g.events(), 1);
        g.readText();
        Kit.due("promise 4: the event goes", g.events(), 0);
        Kit.fails("promise 35: no event", Kit.INDEX, () -> g.event(0, 0));
    }

    /** Promises 47 and 48. */
    private static void savedEvents() {
        ShareGraph g = Kit.read(FREE);
        g.move(0, 1);
        g.move(1, 1);
        g.save();
        Kit.due("promise 47: they stay", g.events(), 2);
        g.move(2, 1);
        g.move(3, 1);
        g.restore();
        Kit.due("promise 48: two again", g.events(), 2);
        Kit.due("promise 48: the latest one", Kit.event(g, 0), "1 0 1 3");
        Kit.due("promise 48: the first one", Kit.event(g, 1), "0 0 1 7");
        Kit.fails("promise 48: no third one", Kit.INDEX, () -> g.event(2, 0));
    }
}
