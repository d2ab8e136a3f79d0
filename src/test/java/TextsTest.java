/** Promises 1 to 6: a new object, the buffer, texts, scripts and their errors. */
public final class TextsTest {
    public static void main(String[] args) {
        promise1();
        promise2();
        promise3();
        promise4();
        promise4Tokens();
        promise4Codes();
        promise4Limits();
        promise4Replaces();
        promise5();
        promise5Ends();
        promise5Keeps();
        promise6();
        promise6Scripts();
        promise6Commands();
        Kit.end("TextsTest");
    }

    private static void promise1() {
        Kit.due("1: NONE", ShareGraph.NONE, -1);
        ShareGraph g = new ShareGraph();
        int[] settings = {0, 0, 2, 0, 0, 0, 0, 0, 0, 0, 0, 0};
        for (int what = 0; what < settings.length; what++) {
            Kit.due("1: setting " + what, g.setting(what), settings[what]);
        }
        Kit.due("1: an empty buffer", g.truncate(0), 0);
        Kit.fails("1: no byte in the buffer", Kit.ARGUMENT, () -> g.truncate(1));
        Kit.due("1: error", Kit.errorOf(g), "0 -1 -1");
        Kit.due("1: events", g.events(), 0);
        Kit.due("1: undo", g.undo(), ShareGraph.NONE);
        Kit.fails("1: nothing saved", Kit.STATE, g::restore);
        Kit.fails("1: no report", Kit.INDEX, () -> g.reportByte(0));
        Kit.due("1: state as after an empty text", Kit.state(g), Kit.state(Kit.read("")));
    }

    private static void promise2() {
        ShareGraph g = new ShareGraph();
        // "ve" "rt" .. most significant byte first, and 20 bytes a call
        Kit.due("2: feed", g.feed(0x76657274, 0x65782061, 0x20313b20, 0x20202020, 0x2020203b), 20);
        Kit.fails("2: the last byte stands last", Kit.ARGUMENT, g::readText);
        Kit.due("2: error at the last byte", Kit.errorOf(g), "1 19 0");
        Kit.due("2: feed", g.feed(0x76657274, 0x65782061, 0x20313b20, 0x20202020, 0x20202020), 20);
        Kit.due("2: reads what was fed", g.readText(), 1);
        for (int i = 1; i <= 40; i++) {
            Kit.due("2: feed " + i, g.feed(0x20202020, 0x20202020, 0x20202020, 0x20202020, 0x20202020), i * 20);
        }
        Kit.refuses("2: feed above 800", Kit.STATE, g, () -> g.feed(1, 2, 3, 4, 5));
        Kit.due("2: still 800", g.truncate(800), 800);
        Kit.due("2: 800 spaces", g.readText(), 0);
        for (int i = 0; i < 40; i++) {
            g.feed(-1, -1, -1, -1, -1);
        }
        g.truncate(781);
        Kit.fails("2: 781 and 20", Kit.STATE, () -> g.feed(0, 0, 0, 0, 0));
        g.truncate(780);
        Kit.due("2: 780 and 20", g.feed(0, 0, 0, 0, 0), 800);
        ShareGraph bytes = new ShareGraph();
        bytes.feed(0xff808182, 0, 0, 0, 0);
        Kit.fails("2: bytes above 127", Kit.ARGUMENT, bytes::readText);
        Kit.due("2: bytes above 127 are no tokens", Kit.errorOf(bytes), "1 0 0");
    }

    private static void promise3() {
        ShareGraph g = new ShareGraph();
        Kit.feed(g, "vertex a 1;vertex b 2;");
        Kit.refuses("3: longer", Kit.ARGUMENT, g, () -> g.truncate(23));
        Kit.refuses("3: negative", Kit.ARGUMENT, g, () -> g.truncate(-1));
        Kit.refuses("3: least", Kit.ARGUMENT, g, () -> g.truncate(Integer.MIN_VALUE));
        Kit.due("3: the same length", g.truncate(22), 22);
        Kit.due("3: shorter", g.truncate(11), 11);
        Kit.fails("3: not back", Kit.ARGUMENT, () -> g.truncate(12));
        Kit.due("3: the first statement is left", g.readText(), 1);
        Kit.feed(g, "vertex a 1;");
        Kit.due("3: to nothing", g.truncate(0), 0);
        Kit.due("3: an empty text", g.readText(), 0);
    }

    private static void promise4() {
        ShareGraph g = Kit.read(Kit.SQUARE + "slack 7;credit 8;");
        Kit.due("4: the buffer is empty", g.feed(0, 0, 0, 0, 0), 20);
        g.truncate(0);
        Kit.due("4: vertices", g.setting(0), 4);
        Kit.due("4: slack", g.setting(3), 7);
        Kit.due("4: credit", g.setting(4), 8);
        Kit.due("4: names may be words of the grammar",
            Kit.read("vertex vertex 1;vertex edge 2;vertex parts 3;edge vertex edge 4;edge parts vertex 5;").setting(1), 2);
        Kit.due("4: order of statements", Kit.read("credit 3;vertex a 1;slack 2;vertex b 1;parts 4;edge b a 9;").edge(0, 0), 1);
        Kit.due("4: nothing between tokens", Kit.read("vertex a1;vertex b01;edge a b099;parts4;slack00;").setting(7), 99);
        Kit.due("4: line feeds", Kit.read("\n vertex\na\n 1\n;\n\n").setting(0), 1);
    }

    private static void textFault(String text, String error) {
        Kit.due("4: error of " + text.replace("\n", "\\n"), Kit.textError(text), error);
    }

    private static void promise4Tokens() {
        textFault("", "none");
        textFault(" \n ", "none");
        textFault("vertex", "1 6 0");
        textFault("vertex ", "1 7 0");
        textFault("vertex a", "1 8 0");
        textFault("vertex a 1", "1 10 0");
        textFault("vertex a 1\n", "1 11 0");
        textFault("vertex a 1;", "none");
        textFault(" vertex a 1 ;", "none");
        textFault("vertex abcdefgh 1;", "none");
        textFault("vertex abcdefghi 1;", "1 7 0");
        textFault("vertex a 001;", "none");
        textFault("vertex a 0001;", "1 9 0");
        textFault("vertex a 1000;", "1 9 0");
        textFault("vertex az 1;vertex a 1;vertex za 1;vertex z 1;", "none");
        textFault("vertexa 1;", "1 0 0");
        textFault("vertex A 1;", "1 7 0");
        textFault("vertex _ 1;", "1 7 0");
        textFault("vertex { 1;", "1 7 0");
        textFault("vertex ` 1;", "1 7 0");
        textFault("vertex a :;", "1 9 0");
        textFault("vertex a /;", "1 9 0");
        textFault("vertex a\t1;", "1 8 0");
        textFault("vertex a 1;\r", "1 11 0");
        textFault("vertex \u00e9 1;", "1 7 0");
        textFault("vertex 1 1;", "1 7 0");
        textFault("vertex a b;", "1 9 0");
        textFault("vertex a -1;", "1 9 0");
        textFault("vertex a 1 2;", "1 11 0");
        textFault(";", "1 0 0");
        textFault("(", "1 0 0");
        textFault(")", "1 0 0");
        textFault("7;", "1 0 0");
        textFault("shrink;", "1 0 0");
        textFault("edges a b 1;", "1 0 0");
        textFault("vertex a 1;;", "1 11 0");
        textFault("parts 2 (", "1 8 0");
        textFault("vertex a 1;edge a", "1 17 0");
        textFault("vertex a 1;edge a;", "1 17 0");
        textFault("vertex a 1;vertex b 1;edge a b;", "1 30 0");
        textFault("vertex a 1;vertex b 1;edge a b 1", "1 32 0");
    }

    private static void promise4Codes() {
        textFault("vertex a 0;", "2 9 0");
        textFault("vertex a 100;", "2 9 0");
        textFault("vertex a 99;", "none");
        textFault("vertex a 1;vertex a 1;", "3 18 0");
        textFault("vertex a 1;vertex a 0;", "3 18 0");
        textFault("edge a b 1;", "3 5 0");
        textFault("vertex b 1;edge a b 1;", "3 16 0");
        textFault("vertex a 1;edge a b 1;", "3 18 0");
        textFault("vertex a 1;edge a b 1;vertex b 1;", "3 18 0");
        textFault("vertex a 1;edge a a 1;", "3 18 0");
        textFault("vertex a 1;vertex b 1;edge a b 0;", "2 31 0");
        textFault("vertex a 1;vertex b 1;edge a b 100;", "2 31 0");
        textFault("vertex a 1;vertex b 1;edge a b 99;edge a b 1;", "4 41 0");
        textFault("vertex a 1;vertex b 1;edge a b 1;edge b a 1;", "4 40 0");
        textFault("vertex a 1;vertex b 1;vertex c 1;edge a b 1;edge b c 1;edge a c 1;", "none");
        textFault("parts 1;", "2 6 0");
        textFault("parts 5;", "2 6 0");
        textFault("parts 0;", "2 6 0");
        textFault("parts 4;", "none");
        textFault("parts 2;parts 2;", "4 8 0");
        textFault("parts 2;parts", "4 8 0");
        textFault("slack 99;", "none");
        textFault("slack 100;", "2 6 0");
        textFault("slack 0;slack 0;", "4 8 0");
        textFault("credit 99;", "none");
        textFault("credit 100;", "2 7 0");
        textFault("credit 0;credit 0;", "4 9 0");
        textFault("parts 2;slack 1;credit 1;parts 9;", "4 25 0");
        // the first token that is wrong counts, also if a later one has a lower code
        textFault("parts 9;parts $", "2 6 0");
    }

    /** What was cut off stays nothing, though it was in the buffer. */
    private static void promise4Truncated(String text, int length, String error) {
        ShareGraph g = new ShareGraph();
        Kit.feed(g, text);
        g.truncate(length);
        Kit.fails("4: cut off " + text, Kit.ARGUMENT, g::readText);
        Kit.due("4: error of the rest of " + text, Kit.errorOf(g), error);
    }

    private static void promise4Limits() {
        promise4Truncated("vertex a 12;", 10, "1 10 0");
        promise4Truncated("vertex abc 1;", 8, "1 8 0");
        promise4Truncated("vertex     a 1;", 8, "1 8 0");
        promise4Truncated("vertex a 1;", 10, "1 10 0");

        textFault(Kit.vertices(14), "none");
        textFault(Kit.vertices(15), "6 154 0");
        textFault(Kit.vertices(14) + "vertex a 1;", "6 154 0");
        textFault(Kit.vertices(14) + Kit.edges(40), "none");
        textFault(Kit.vertices(14) + Kit.edges(41), "6 594 0");
        textFault(Kit.vertices(14) + Kit.edges(40) + "edge a b 1;", "6 594 0");
        Kit.due("4: 14 vertices", Kit.read(Kit.vertices(14) + Kit.edges(40)).setting(1), 40);
    }

    private static void promise4Replaces() {
        ShareGraph g = Kit.read(Kit.SQUARE + "slack 1;credit 2;");
        g.steps(9);
        g.save();
        g.shrink();
        g.setCredit(50);
        g.report();
        Kit.feed(g, "vertex x 4;vertex y 100;");
        Kit.refuses("4: a text with an error", Kit.ARGUMENT, g, g::readText);
        Kit.due("4: its error", Kit.errorOf(g), "2 20 0");
        Kit.due("4: its buffer is emptied", g.truncate(0), 0);
        Kit.fails("4: its buffer is empty", Kit.ARGUMENT, () -> g.truncate(1));
        Kit.due("4: undo still works", g.undo(), 2);
        Kit.feed(g, "vertex x 4;vertex y 9;");
        Kit.due("4: the next text", g.readText(), 2);
        Kit.due("4: its state", Kit.state(g), Kit.state(Kit.read("vertex x 4;vertex y 9;")));
        Kit.due("4: its error", Kit.errorOf(g), "0 -1 -1");
        Kit.due("4: undo is forgotten", g.undo(), ShareGraph.NONE);
        Kit.due("4: the report stays", g.reportByte(3), 'a');
        g.restore();
        Kit.due("4: what was saved stays", Kit.parts(g), "0011");
        Kit.feed(g, "vertex w 1;vertex x 1;vertex y 1;vertex z 1;parts 4;");
        g.readText();
        Kit.due("4: all in part 0", Kit.parts(g), "0000");
        Kit.feed(g, "");
        g.readText();
        Kit.due("4: nothing of the text before", Kit.state(g), Kit.state(new ShareGraph()));
    }

    private static void ran(String script, int done, String parts, int credit) {
        ShareGraph g = Kit.read(Kit.SQUARE);
        Kit.due("5: " + script, Kit.run(g, script), done);
        Kit.due("5: parts behind " + script, Kit.parts(g), parts);
        Kit.due("5: credit behind " + script, g.setting(4), credit);
        Kit.due("5: can be undone behind " + script, g.setting(10), 1);
        g.undo();
        Kit.due("5: undone " + script, Kit.state(g), Kit.state(Kit.read(Kit.SQUARE)));
    }

    private static void promise5() {
        ran("", 0, "0000", 0);
        ran("shrink;move 1 1;grow;", 3, "0011", 0);
        ran("step;", 1, "0010", 0);
        ran("steps 1;", 1, "0010", 0);
        ran("steps 99;", 1, "0011", 0);
        ran("steps 5;steps 5;", 2, "0011", 0);
        ran("best;", 1, "0011", 0);
        ran("apart c b;", 1, "1100", 0);
        ran("credit 99;", 1, "0000", 99);
        ran("move 0 1;", 1, "1000", 0);
        ran("repeat 2(step;);credit 3;", 3, "0011", 3);
        ran("repeat 3(repeat 4(credit 7;);credit 8;);credit 9;", 16, "0000", 9);
        ran("repeat 20();repeat 20(repeat 20(););credit 5;", 1, "0000", 5);
        ran("repeat 1(repeat 1();repeat 2(credit 1;);credit 4;);", 3, "0000", 4);
    }

    private static void promise5Ends() {
        ran("step;step;step;credit 9;", 2, "0011", 0);
        ran("repeat 5(step;);credit 9;", 2, "0011", 0);
        ran("repeat 5(repeat 5(step;);credit 9;);", 2, "0011", 0);
        ran("credit 8;steps 0;credit 9;", 1, "0000", 8);
        ran("credit 8;steps 100;credit 9;", 1, "0000", 8);
        ran("credit 8;credit 100;credit 9;", 1, "0000", 8);
        ran("credit 8;move 0 0;credit 9;", 1, "0000", 8);
        ran("credit 8;move 4 0;credit 9;", 1, "0000", 8);
        ran("credit 8;move 0 2;credit 9;", 1, "0000", 8);
        ran("credit 8;grow;credit 9;", 1, "0000", 8);
        ran("shrink;credit 8;shrink;credit 9;", 2, "0000", 8);
        ran("credit 8;apart a a;credit 9;", 1, "0000", 8);
        ran("shrink;credit 8;apart a b;credit 9;", 2, "0000", 8);
        // the 40th command ends a script, and "repeat" is not counted
        ran("repeat 20(credit 1;credit 2;credit 3;);credit 4;", 40, "0000", 1);
        ran("repeat 20(credit 1;credit 2;);credit 4;", 40, "0000", 2);
        ran("repeat 19(credit 1;credit 2;);credit 4;credit 5;", 40, "0000", 5);
        ran("repeat 19(credit 1;credit 2;);credit 4;credit 5;credit 6;", 40, "0000", 5);
        ran("repeat 13(repeat 3(credit 1;););credit 4;credit 5;", 40, "0000", 4);
        ShareGraph g = Kit.read(Kit.vertices(8));
        Kit.due("5: best with 8 groups", Kit.run(g, "credit 1;best;credit 2;"), 1);
        ShareGraph three = Kit.read(Kit.SQUARE.replace("parts 2", "parts 3"));
        Kit.due("5: apart with 3 parts", Kit.run(three, "credit 1;apart a b;"), 1);
    }

    private static void promise5Keeps() {
        ShareGraph g = Kit.read(Kit.SQUARE);
        g.step();
        g.save();
        g.report();
        Kit.feed(g, "step;credit 100 100;");
        Kit.refuses("5: a script with an error", Kit.ARGUMENT, g, g::runScript);
        Kit.due("5: its error", Kit.errorOf(g), "1 16 0");
        Kit.fails("5: its buffer is empty", Kit.ARGUMENT, () -> g.truncate(1));
        Kit.due("5: an empty buffer is an empty script", g.runScript(), 0);
        Kit.due("5: the error is gone", Kit.errorOf(g), "0 -1 -1");
        Kit.due("5: no command was done, and it can be undone", g.setting(10), 2);
        Kit.due("5: a script counts as one call", Kit.run(g, "credit 1;credit 2;credit 3;"), 3);
        Kit.due("5: as one", g.setting(10), 3);
        Kit.due("5: undone as a whole", g.undo(), 2);
        Kit.due("5: the credit", g.setting(4), 0);
        Kit.fails("5: the buffer is empty", Kit.ARGUMENT, () -> g.truncate(1));
        for (int i = 0; i < 3; i++) {
            Kit.due("5: the commands of each script are counted anew", Kit.run(g, "credit 1;".repeat(20)), 20);
        }
    }

    private static void scriptFault(String script, String error) {
        Kit.due("6: error of " + script, Kit.scriptError(script), error);
    }

    private static void promise6() {
        ShareGraph g = Kit.read(Kit.SQUARE);
        Kit.due("6: no error", Kit.errorOf(g), "0 -1 -1");
        Kit.feed(g, "repeat 2 (step;jump;);");
        Kit.fails("6: a script with an error", Kit.ARGUMENT, g::runScript);
        Kit.due("6: its error", Kit.errorOf(g), "1 15 1");
        Kit.refuses("6: what 3", Kit.ARGUMENT, g, () -> g.error(3));
        Kit.refuses("6: what -1", Kit.ARGUMENT, g, () -> g.error(-1));
        g.step();
        g.undo();
        Kit.due("6: it stays behind other calls", Kit.errorOf(g), "1 15 1");
        Kit.feed(g, "(");
        Kit.fails("6: a text with an error", Kit.ARGUMENT, g::readText);
        Kit.due("6: its error", Kit.errorOf(g), "1 0 0");
        g.readText();
        Kit.due("6: gone behind a good text", Kit.errorOf(g), "0 -1 -1");
    }

    private static void promise6Scripts() {
        scriptFault("", "none");
        scriptFault("shrink", "1 6 0");
        scriptFault("jump;", "1 0 0");
        scriptFault("vertex a 1;", "1 0 0");
        scriptFault(";", "1 0 0");
        scriptFault(")", "1 0 0");
        scriptFault("step;)", "1 5 0");
        scriptFault("(step;);", "1 0 0");
        scriptFault("repeat 0 ();", "2 7 0");
        scriptFault("repeat 21 ();", "2 7 0");
        scriptFault("repeat 1();", "none");
        scriptFault("repeat 20 (\n) ;", "none");
        scriptFault("repeat (step;);", "1 7 0");
        scriptFault("repeat 2 step", "1 9 0");
        scriptFault("repeat 2", "1 8 0");
        scriptFault("repeat 2 (", "1 10 1");
        scriptFault("repeat 2 ((", "1 10 1");
        scriptFault("repeat 2 (step", "1 14 1");
        scriptFault("repeat 2 (step)", "1 14 1");
        scriptFault("repeat 2 (step;", "1 15 1");
        scriptFault("repeat 2 (;", "1 10 1");
        scriptFault("repeat 2 (step;)", "1 16 0");
        scriptFault("repeat 2 (step;))", "1 16 0");
        scriptFault("repeat 2 (step;););", "1 17 0");
        scriptFault("repeat 2 (repeat 2 (x;", "1 20 2");
        scriptFault("repeat 2 (repeat 2 (step)", "1 24 2");
        scriptFault("repeat 2 (repeat 2 (step;)", "1 26 1");
        scriptFault("repeat 2 (repeat 2 (step;))", "1 26 1");
        scriptFault("repeat 2 (repeat 2 (step;);", "1 27 1");
        scriptFault("repeat 2 (repeat 2 (step;);)", "1 28 0");
        scriptFault("repeat 2 (repeat 2 (step;););", "none");
        scriptFault("repeat 2 (repeat 0", "2 17 1");
        scriptFault("repeat 2 (repeat 2 (apart a x;", "3 28 2");
        scriptFault("repeat 2 (repeat 2 (repeat 2 (", "4 20 2");
        scriptFault("repeat 2 (repeat 2 (repeat $", "4 20 2");
        scriptFault("repeat 2 (repeat 2 (););repeat 2 (repeat 2 ();repeat 2 (););", "none");
    }

    private static void promise6Commands() {
        scriptFault("move 0 1", "1 8 0");
        scriptFault("move 0;", "1 6 0");
        scriptFault("move 999 999;", "none");
        scriptFault("move 1000 0;", "1 5 0");
        scriptFault("move a 0;", "1 5 0");
        scriptFault("steps;", "1 5 0");
        scriptFault("steps 999;", "none");
        scriptFault("step 1;", "1 5 0");
        scriptFault("best 1;", "1 5 0");
        scriptFault("grow (", "1 5 0");
        scriptFault("credit 999;", "none");
        scriptFault("credit;", "1 6 0");
        scriptFault("apart a x;", "3 8 0");
        scriptFault("apart x a;", "3 6 0");
        scriptFault("apart a a;", "none");
        scriptFault("apart a 1;", "1 8 0");
        scriptFault("apart a;", "1 7 0");
        scriptFault("apart abcdefghi a;", "1 6 0");
        String thirty = "step;".repeat(30);
        scriptFault(thirty, "none");
        scriptFault(thirty + "step;", "6 150 0");
        scriptFault(thirty + "repeat 2();", "6 150 0");
        scriptFault(thirty + "jump;", "1 150 0");
        scriptFault("repeat 1(" + "step;".repeat(29) + ");", "none");
        scriptFault("repeat 1(" + "step;".repeat(30) + ");", "6 154 1");
        scriptFault("repeat 1(repeat 1(" + "step;".repeat(28) + "repeat 1();););", "4 158 2");
        scriptFault("repeat 1(repeat 1(" + "step;".repeat(28) + "step;););", "6 158 2");
    }
}
