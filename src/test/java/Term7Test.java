/** Term 7, scripts, sentence by sentence, on both sides of each bound; with promises 5 and 6. */
public final class Term7Test {
    /** The same as Kit.SQUARE, but with room for shrinking and moves. */
    private static final String WIDE = Kit.SQUARE + "slack 9;credit 99;";

    public static void main(String[] args) {
        scripts();
        places();
        placesOfBrackets();
        words();
        numbers();
        repeatNumbers();
        tokensOfTexts();
        asMethods();
        asMethodsInOrder();
        turns();
        endsAtShrinkAndGrow();
        endsAtMove();
        endsAtSteps();
        endsAtPlaces();
        endsAtCredit();
        endsWithinRepeat();
        staysDone();
        noEnd();
        fortyCommands();
        fortyCommandsOfKinds();
        names();
        depth();
        thirtyCommands();
        lowestCode();
        leftToRight();
        brackets();
        longScript();
        manyBrackets();
        buffer();
        Kit.end("Term7Test");
    }

    private static void fault(String script, String error) {
        Kit.due("term 7: error of " + script, Kit.scriptError(script), error);
    }

    private static void good(String script) {
        fault(script, "none");
    }

    /** Runs it in an object that has read the text; the number of commands, and the credit behind it. */
    private static void ran(String text, String script, int done, int credit) {
        ShareGraph g = Kit.read(text);
        Kit.due("term 7: commands done of " + script, Kit.run(g, script), done);
        Kit.due("term 7: the credit behind " + script, g.setting(4), credit);
    }

    /** script = { command ";" } */
    private static void scripts() {
        good("");
        good(" \n");
        good("step;");
        good("step;step;");
        good("\nstep\n;\nstep ; ");
        fault(";", "1 0 0");
        fault("step", "1 4 0");
        fault("step;;", "1 5 0");
        fault("step step;", "1 5 0");
        fault("step;step", "1 9 0");
        good("repeat 2();");
        good("repeat 2(step;);");
        good("repeat 2(step;step;);");
        fault("repeat 2(;);", "1 9 1");
        fault("repeat 2(step);", "1 13 1");
        fault("repeat 2(step;;);", "1 14 1");
    }

    /** At each place of each command each token of another kind is not allowed, and neither is the end. */
    private static void places() {
        String[][] commands = {{"shrink", ";"}, {"grow", ";"}, {"move", "0", "1", ";"}, {"step", ";"}, {"steps", "1", ";"},
            {"best", ";"}, {"apart", "a", "b", ";"}, {"credit", "1", ";"}};
        for (String[] tokens : commands) {
            places("", 0, "", tokens);
            places("step;", 0, "", tokens);
            places("repeat 1(", 1, ");", tokens);
            places("repeat 1(repeat 2(step;", 2, ");step;);", tokens);
        }
    }

    private static void places(String before, int depth, String behind, String... tokens) {
        StringBuilder text = new StringBuilder(before);
        for (int place = 0; place < tokens.length; place++) {
            for (String other : new String[] {"x", "1", ";", "(", ")", "$", "abcdefghi", "1000"}) {
                boolean isCloseOfRepeat = place == 0 && depth > 0 && other.equals(")");
                boolean isOfOneKind = place > 0 && other.length() < 4 && kindOf(other) == kindOf(tokens[place]);
                if (!isCloseOfRepeat && !isOfOneKind) {
                    fault(text + other, "1 " + text.length() + " " + depth);
                }
            }
            if (place > 0 || depth > 0) {
                fault(text.toString(), "1 " + text.length() + " " + depth);
            }
            text.append(tokens[place]).append(' ');
        }
        good(text + behind);
    }

    private static char kindOf(String token) {
        char sign = token.charAt(0);
        return Character.isLetter(sign) ? 'a' : Character.isDigit(sign) ? '0' : sign;
    }

    /** "repeat" N "(" script ")" ";": the depth is that of the token that is wrong. */
    private static void placesOfBrackets() {
        for (String other : new String[] {"", "x", "(", ")", ";", "$", "step"}) {
            fault("repeat " + other, "1 7 0");
        }
        for (String other : new String[] {"", "x", "1", ")", ";", "$", "step;"}) {
            fault("repeat 2 " + other, "1 9 0");
        }
        for (String other : new String[] {"", "x", "1", "(", ";", "$", "vertex"}) {
            fault("repeat 2 (" + other, "1 10 1");
        }
        for (String other : new String[] {"", "x", "1", "(", ")", "$", "step;"}) {
            fault("repeat 2 ()" + other, "1 11 0");
        }
        for (String other : new String[] {"", "x", "1", "(", ")", "$", "step;"}) {
            fault("repeat 1(repeat 2 ()" + other, "1 20 1");
        }
        for (String other : new String[] {"", "x", "(", ")", ";", "$"}) {
            fault("repeat 1(repeat " + other, "1 16 1");
        }
        for (String other : new String[] {"", "x", "1", "(", ";", "$"}) {
            fault("repeat 1(repeat 2(" + other, "1 18 2");
        }
        fault(")", "1 0 0");
        fault("();", "1 0 0");
        fault("(step;);", "1 0 0");
        fault("step;);", "1 5 0");
        fault("repeat 1(););", "1 11 0");
        fault("repeat 1(repeat 1(););)", "1 22 0");
    }

    private static void words() {
        for (String word : new String[] {"shrin", "shrinks", "gro", "grows", "mov", "moves", "ste", "stepss", "bes", "bests",
            "apar", "aparts", "credi", "credits", "repea", "repeats", "vertex", "edge", "parts", "slack", "a", "undo",
            "save", "report", "shrinkxx", "shrinkxxx", "placebest", "repeatab"}) {
            fault(word + " 1 (", "1 0 0");
        }
        good("step ;steps 1;");
        fault("stepstep;", "1 0 0");
        fault("step5;", "1 4 0");
        good("steps5;");
        good("apart a b;");
        fault("apart ab;", "3 6 0");
        fault("Step;", "1 0 0");
        fault("stEp;", "1 0 0");
        fault("step T;", "1 5 0");
    }

    /** Numbers are 0 to 999; which of them a method takes is seen only when the script runs. */
    private static void numbers() {
        for (String number : new String[] {"0", "00", "000", "1", "99", "100", "999", "099"}) {
            good("move " + number + " 0;");
            good("move 0 " + number + ";");
            good("steps " + number + ";");
            good("credit " + number + ";");
        }
        fault("move 1000 0;", "1 5 0");
        fault("move 0 1000;", "1 7 0");
        fault("move 0000 0;", "1 5 0");
        fault("steps 1000;", "1 6 0");
        fault("credit 1000;", "1 7 0");
        fault("credit 0001;", "1 7 0");
        fault("credit -1;", "1 7 0");
        ran(WIDE, "credit 099;", 1, 99);
        ran(WIDE, "credit 007;", 1, 7);
    }

    /** Numbers of "repeat" are 1 to 20. */
    private static void repeatNumbers() {
        fault("repeat 0(step;);", "2 7 0");
        fault("repeat 000 (", "2 7 0");
        good("repeat 1(step;);");
        good("repeat 20(step;);");
        good("repeat 020(step;);");
        fault("repeat 21(step;);", "2 7 0");
        fault("repeat 999(step;);", "2 7 0");
        fault("repeat 1000(step;);", "1 7 0");
        fault("repeat 1(repeat 0(step;););", "2 16 1");
        fault("repeat 1(repeat 21(step;););", "2 16 1");
        good("repeat 20(repeat 20(step;););");
        for (int turns = 1; turns <= 20; turns++) {
            ran(WIDE, "repeat " + turns + "(credit 5;);credit 6;", turns + 1, 6);
        }
    }

    /** The tokens are those of a text. */
    private static void tokensOfTexts() {
        for (int value = 0; value < 256; value++) {
            char sign = (char) value;
            boolean isBlank = value == 32 || value == 10;
            fault(String.valueOf(sign), isBlank ? "none" : "1 0 0");
            boolean isDigit = sign >= '0' && sign <= '9';
            fault("credit 1" + sign + ";", isBlank || isDigit ? "none" : sign == ';' ? "1 9 0" : "1 8 0");
            fault("repeat 2(" + sign + "step;);", isBlank ? "none" : sign == ')' ? "1 10 0" : "1 9 1");
        }
    }

    private interface Change {
        void make(ShareGraph graph);
    }

    private static void same(String text, String before, String command, Change change) {
        ShareGraph scripted = Kit.read(text);
        ShareGraph called = Kit.read(text);
        Kit.run(scripted, before);
        Kit.run(called, before);
        Kit.due("term 7: " + command + " is done", Kit.run(scripted, command + ";"), 1);
        change.make(called);
        Kit.due("term 7: " + command + " is as its method", Twins.all(scripted), Twins.all(called));
    }

    /** The commands are as the methods. */
    private static void asMethods() {
        same(WIDE, "", "shrink", ShareGraph::shrink);
        same(WIDE, "shrink;move 1 1;", "grow", ShareGraph::grow);
        same(WIDE, "", "move 2 1", g -> g.move(2, 1));
        same(WIDE, "shrink;", "move 1 1", g -> g.move(1, 1));
        same(Kit.SQUARE, "", "step", ShareGraph::step);
        same(Kit.SQUARE, "step;", "step", ShareGraph::step);
        same(Kit.SQUARE, "", "steps 1", g -> g.steps(1));
        same(Kit.SQUARE, "", "steps 99", g -> g.steps(99));
        same(Kit.SQUARE, "steps 9;", "steps 5", g -> g.steps(5));
        same(Kit.SQUARE, "", "best", ShareGraph::placeBest);
        same(Kit.SQUARE, "best;", "best", ShareGraph::placeBest);
        same(Kit.SQUARE, "", "apart c a", g -> g.placeApart(2, 0));
        same(Kit.SQUARE, "", "apart d b", g -> g.placeApart(3, 1));
        same(Kit.SQUARE, "apart a c;", "apart a c", g -> g.placeApart(0, 2));
        same(Kit.SQUARE, "", "credit 99", g -> g.setCredit(99));
        same(WIDE, "", "credit 0", g -> g.setCredit(0));
        same(WIDE, "", "credit 99", g -> g.setCredit(99));
    }

    private static void asMethodsInOrder() {
        ShareGraph scripted = Kit.read(WIDE);
        ShareGraph called = Kit.read(WIDE);
        Kit.due("term 7: in order", Kit.run(scripted, "move 3 1;shrink;step;grow;credit 4;apart b d;best;"), 7);
        called.move(3, 1);
        called.shrink();
        called.step();
        called.grow();
        called.setCredit(4);
        called.placeApart(1, 3);
        called.placeBest();
        String due = Kit.state(called);
        Kit.due("term 7: each method can be undone alone", called.setting(10), 6);
        Kit.due("term 7: the script as a whole", scripted.setting(10), 1);
        Kit.due("term 7: as the methods", Kit.state(scripted), due.replaceFirst("^((\\S+ ){10})6 ", "$11 "));
        Kit.due("term 7: all as before", scripted.undo(), 0);
        Kit.due("term 7: parts", Kit.parts(scripted) + Kit.groups(scripted) + scripted.events(), "000001230");
    }

    private static void turns() {
        ran(WIDE, "repeat 3(credit 1;credit 2;);", 6, 2);
        ran(WIDE, "repeat 3(repeat 4(credit 1;););", 12, 1);
        ran(WIDE, "repeat 3(credit 1;repeat 4(credit 2;);credit 3;);", 18, 3);
        ran(WIDE, "repeat 2(repeat 3(credit 1;);repeat 4(credit 2;););", 14, 2);
        ran(WIDE, "repeat 2(credit 1;);repeat 3(credit 2;);", 5, 2);
        ran(WIDE, "repeat 1(repeat 1(credit 1;););", 1, 1);
        ran(WIDE, "repeat 20(repeat 20(););credit 8;", 1, 8);
        ran(WIDE, "repeat 20();", 0, 99);
        ran(WIDE, "repeat 4(move 0 1;move 0 0;);", 8, 99);
        ShareGraph g = Kit.read(WIDE);
        Kit.run(g, "repeat 4(move 0 1;move 0 0;);");
        Kit.due("term 7: each turn does its commands", g.events(), 8);
    }

    /** A script ends at a command whose method would throw an exception, or return NONE; it is not counted. */
    private static void endsAtShrinkAndGrow() {
        ran(WIDE, "credit 1;grow;credit 2;", 1, 1);
        ran(WIDE, "shrink;grow;credit 2;", 3, 2);
        ran(WIDE, "shrink;grow;grow;credit 2;", 2, 99);
        ran(Kit.SQUARE, "shrink;credit 1;shrink;credit 2;", 2, 1);
        ran("", "shrink;credit 2;", 0, 0);
        ran(GroupsTest.STAR, "shrink;shrink;shrink;shrink;credit 5;", 5, 5);
        ran(GroupsTest.STAR, "shrink;shrink;shrink;shrink;shrink;credit 5;", 4, 0);
        ran(GroupsTest.STAR, "shrink;shrink;shrink;shrink;grow;grow;grow;grow;credit 5;", 9, 5);
        ran(GroupsTest.STAR, "shrink;shrink;shrink;shrink;grow;grow;grow;grow;grow;credit 5;", 8, 0);
    }

    private static void endsAtMove() {
        ran(WIDE, "move 3 1;credit 2;", 2, 2);
        ran(WIDE, "credit 1;move 4 1;credit 2;", 1, 1);
        ran(WIDE, "credit 1;move 0 2;credit 2;", 1, 1);
        ran(WIDE, "credit 1;move 999 0;credit 2;", 1, 1);
        ran(WIDE, "credit 1;move 0 999;credit 2;", 1, 1);
        ran(WIDE, "credit 1;move 32 1;credit 2;", 1, 1);
        ran(WIDE, "move 0 1;credit 1;move 0 1;credit 2;", 2, 1);
        ran(WIDE, "shrink;credit 1;move 2 1;credit 2;", 2, 1);
        ran(WIDE, "shrink;credit 1;move 1 1;credit 2;", 4, 2);
        // the limit is 5: behind the moves of c and d no part may become heavier
        ran(Kit.SQUARE, "move 2 1;move 3 1;credit 2;move 0 1;credit 9;", 5, 9);
        ran(Kit.SQUARE, "move 2 1;move 3 1;credit 1;move 0 1;credit 9;", 3, 1);
        ran("parts 3;" + Kit.vertices(3), "move 0 2;credit 2;", 2, 2);
        ran("parts 3;" + Kit.vertices(3), "move 0 3;credit 2;", 0, 0);
        ran("", "move 0 0;credit 2;", 0, 0);
    }

    private static void endsAtSteps() {
        ran(Kit.SQUARE, "step;step;credit 1;", 3, 1);
        ran(Kit.SQUARE, "step;step;step;credit 1;", 2, 0);
        ran("", "step;credit 1;", 0, 0);
        ran(Kit.SQUARE, "steps 0;credit 1;", 0, 0);
        ran(Kit.SQUARE, "steps 1;credit 1;", 2, 1);
        ran(Kit.SQUARE, "steps 99;credit 1;", 2, 1);
        ran(Kit.SQUARE, "steps 100;credit 1;", 0, 0);
        ran(Kit.SQUARE, "steps 999;credit 1;", 0, 0);
    }

    private static void endsAtPlaces() {
        ran(Kit.vertices(7), "best;credit 1;", 2, 1);
        ran(Kit.vertices(8), "best;credit 1;", 0, 0);
        ran(Kit.vertices(8) + "edge g h 1;slack 9;", "shrink;best;credit 1;", 3, 1);
        ran(Kit.SQUARE, "apart a b;credit 1;", 2, 1);
        ran(Kit.SQUARE, "apart a a;credit 1;", 0, 0);
        ran(Kit.SQUARE, "apart d d;credit 1;", 0, 0);
        ran(Kit.SQUARE, "shrink;apart a b;credit 1;", 1, 0);
        ran(Kit.SQUARE, "shrink;grow;apart a b;credit 1;", 4, 1);
        ran(Kit.SQUARE.replace("parts 2", "parts 3"), "apart a b;credit 1;", 0, 0);
        ran(Kit.SQUARE.replace("parts 2", "parts 4"), "apart a b;credit 1;", 0, 0);
    }

    private static void endsAtCredit() {
        ran(WIDE, "credit 0;", 1, 0);
        ran(WIDE, "credit 1;credit 99;", 2, 99);
        ran(WIDE, "credit 1;credit 100;credit 2;", 1, 1);
        ran(WIDE, "credit 1;credit 999;credit 2;", 1, 1);
    }

    /** It ends, also within a "repeat", as a whole. */
    private static void endsWithinRepeat() {
        ran(Kit.SQUARE, "repeat 2(step;);credit 9;", 3, 9);
        ran(Kit.SQUARE, "repeat 3(step;);credit 9;", 2, 0);
        ran(Kit.SQUARE, "repeat 3(credit 8;step;);credit 9;", 5, 8);
        ran(Kit.SQUARE, "repeat 2(repeat 2(step;);credit 8;);credit 9;", 3, 8);
        ran(Kit.SQUARE, "repeat 2(repeat 3(step;);credit 8;);credit 9;", 2, 0);
        ran(Kit.SQUARE, "repeat 2(credit 7;grow;credit 8;);credit 9;", 1, 7);
        ran(Kit.SQUARE, "repeat 2(repeat 2(credit 7;move 0 1;credit 8;);credit 6;);credit 9;", 4, 7);
    }

    /** The commands before stay done, and all of them are undone by one call. */
    private static void staysDone() {
        ShareGraph g = Kit.read(Kit.SQUARE);
        Kit.due("term 7: ends at its end", Kit.run(g, "step;repeat 5(step;);shrink;"), 2);
        Kit.due("term 7: both steps stay done", Kit.parts(g) + g.events(), "00112");
        Kit.due("term 7: no error", Kit.errorOf(g), "0 -1 -1");
        Kit.due("term 7: one can be undone", g.setting(10), 1);
        Kit.due("term 7: as a whole", g.undo(), 0);
        Kit.due("term 7: all as before", Kit.state(g), Kit.state(Kit.read(Kit.SQUARE)));
        Kit.due("term 7: no command was done", Kit.run(g, "grow;step;"), 0);
        Kit.due("term 7: it can be undone, too", g.setting(10), 1);
        Kit.due("term 7: an empty script", Kit.run(g, ""), 0);
        Kit.due("term 7: it can be undone, too", g.setting(10), 2);
    }

    /** A method that changes nothing, but answers, is counted. */
    private static void noEnd() {
        ran(Kit.SQUARE, "steps 9;steps 9;credit 1;", 3, 1);
        ran("", "steps 1;best;credit 1;", 3, 1);
        ran(Kit.SQUARE, "best;best;credit 1;", 3, 1);
        ran(Kit.SQUARE, "apart a c;apart a c;credit 1;", 3, 1);
        ran(Kit.SQUARE, "credit 0;credit 0;", 2, 0);
    }

    /** It also ends early when 40 commands ("repeat" not counted) were done. */
    private static void fortyCommands() {
        ran(WIDE, "repeat 13(credit 1;credit 2;credit 3;);", 39, 3);
        ran(WIDE, "repeat 13(credit 1;credit 2;credit 3;);credit 4;", 40, 4);
        ran(WIDE, "repeat 13(credit 1;credit 2;credit 3;);credit 4;credit 5;", 40, 4);
        ran(WIDE, "repeat 20(credit 1;credit 2;);", 40, 2);
        ran(WIDE, "repeat 20(credit 1;credit 2;);credit 3;", 40, 2);
        ran(WIDE, "repeat 14(credit 1;credit 2;credit 3;);", 40, 1);
        ran(WIDE, "repeat 20(repeat 20(credit 1;credit 2;););credit 3;", 40, 2);
        ran(WIDE, "credit 5;repeat 20(repeat 20(credit 1;credit 2;););credit 3;", 40, 1);
        ran(WIDE, "repeat 2(repeat 20(credit 1;););credit 3;", 40, 1);
        ran(WIDE, "repeat 2(repeat 20(););repeat 2(repeat 19(credit 1;););credit 3;credit 4;credit 5;", 40, 4);
        // the count begins anew with each script
        ShareGraph g = Kit.read(WIDE);
        for (int i = 0; i < 3; i++) {
            Kit.due("term 7: 40 of the next script", Kit.run(g, "repeat 20(repeat 20(credit 1;););"), 40);
        }
    }

    private static void fortyCommandsOfKinds() {
        ShareGraph g = Kit.read(WIDE);
        Kit.due("term 7: 40 moves", Kit.run(g, "repeat 20(move 0 1;move 0 0;);move 0 1;"), 40);
        Kit.due("term 7: the 41st is not done", g.partOf(0), 0);
        ShareGraph steps = Kit.read(GroupsTest.TWINS + "credit 5;");
        Kit.due("term 7: a command of many steps is one", Kit.run(steps, "repeat 20(steps 99;steps 99;);step;"), 40);
        Kit.due("term 7: the step is not done", steps.partOf(0), 0);
        ShareGraph levels = Kit.read(WIDE);
        Kit.due("term 7: shrink and grow", Kit.run(levels, "repeat 20(shrink;grow;);shrink;"), 40);
        Kit.due("term 7: the 41st is not done", levels.setting(8), 0);
        // a command that could not be done behind the 40th makes no difference
        ran(WIDE, "repeat 20(credit 1;credit 2;);grow;credit 3;", 40, 2);
        ran(WIDE, "repeat 20(credit 1;credit 2;);credit 100;", 40, 2);
    }

    /** 3: a NAME that no vertex has. */
    private static void names() {
        good("apart a b;");
        good("apart d a;");
        good("apart a a;");
        fault("apart e a;", "3 6 0");
        fault("apart a e;", "3 8 0");
        fault("apart e e;", "3 6 0");
        fault("apart aa a;", "3 6 0");
        fault("apart a aa;", "3 8 0");
        fault("apart step a;", "3 6 0");
        fault("apart abcdefgh a;", "3 6 0");
        fault("apart abcdefghi a;", "1 6 0");
        fault("repeat 2(repeat 2(apart a x;", "3 26 2");
        ShareGraph g = Kit.read("vertex step 1;vertex abcdefgh 1;");
        Kit.due("term 7: names of the text", Kit.run(g, "apart step abcdefgh;apart abcdefgh step;"), 2);
        Kit.feed(g, "apart a b;");
        Kit.fails("term 7: names of another text", Kit.ARGUMENT, g::runScript);
        Kit.due("term 7: its error", Kit.errorOf(g), "3 6 0");
        ShareGraph none = new ShareGraph();
        Kit.feed(none, "apart a b;");
        Kit.fails("term 7: without vertices", Kit.ARGUMENT, none::runScript);
        Kit.due("term 7: its error", Kit.errorOf(none), "3 6 0");
    }

    /** 4: the first word of a "repeat" within two others. */
    private static void depth() {
        good("repeat 1(repeat 1(step;););");
        fault("repeat 1(repeat 1(repeat 1(step;);););", "4 18 2");
        fault("repeat 1(repeat 1(step;repeat", "4 23 2");
        fault("repeat 1(repeat 1(repeat $", "4 18 2");
        fault("repeat 1(repeat 1(repeat 0(", "4 18 2");
        good("repeat 1(repeat 1(step;);repeat 1(step;);repeat 1(););repeat 1(repeat 1(););");
        fault("repeat 1(repeat 1(););repeat 1(repeat 1(  repeat 1(););", "4 42 2");
        good("repeat 1(step;);repeat 1(step;);repeat 1(step;);");
        // a script that ended in brackets does not count for the next one
        ShareGraph g = Kit.read(Kit.SQUARE);
        Kit.feed(g, "repeat 1(repeat 1(");
        Kit.fails("term 7: ends in brackets", Kit.ARGUMENT, g::runScript);
        Kit.due("term 7: its error", Kit.errorOf(g), "1 18 2");
        Kit.due("term 7: brackets of the next script", Kit.run(g, "repeat 1(repeat 1(step;););"), 1);
        Kit.feed(g, "$");
        Kit.fails("term 7: an error behind brackets", Kit.ARGUMENT, g::runScript);
        Kit.due("term 7: its depth", Kit.errorOf(g), "1 0 0");
    }

    /** 6: the first word of a 31st command of the text ("repeat" counts as one, too). */
    private static void thirtyCommands() {
        good("grow;".repeat(29));
        good("grow;".repeat(30));
        fault("grow;".repeat(31), "6 150 0");
        fault("grow;".repeat(30) + " best", "6 151 0");
        fault("grow;".repeat(30) + "repeat 1();", "6 150 0");
        fault("grow;".repeat(30) + "credit $", "6 150 0");
        good("repeat 1();".repeat(30));
        fault("repeat 1();".repeat(31), "6 330 0");
        good("repeat 1(" + "grow;".repeat(29) + ");");
        fault("repeat 1(" + "grow;".repeat(30) + ");", "6 154 1");
        good("repeat 1(repeat 1(" + "grow;".repeat(28) + "););");
        fault("repeat 1(repeat 1(" + "grow;".repeat(29) + "););", "6 158 2");
        fault("repeat 1(repeat 1(" + "grow;".repeat(28) + ");grow;);", "6 160 1");
        fault("repeat 1(repeat 1(" + "grow;".repeat(28) + "););grow;", "6 162 0");
        // commands are counted where they stand, not as often as they are done
        ran(WIDE, "repeat 20(" + "credit 1;".repeat(29) + ");", 40, 1);
        ran(WIDE, "credit 1;".repeat(29) + "credit 2;", 30, 2);
        ShareGraph g = Kit.read(WIDE);
        Kit.due("term 7: 30 commands", Kit.run(g, "credit 1;".repeat(30)), 30);
        Kit.due("term 7: 30 more of the next script", Kit.run(g, "credit 1;".repeat(30)), 30);
    }

    private static void lowestCode() {
        // no command (1) where a 31st would be (6), or where a "repeat" within two others would be (4)
        fault("grow;".repeat(30) + "jump;", "1 150 0");
        fault("grow;".repeat(30) + "abcdefghi;", "1 150 0");
        fault("grow;".repeat(30) + "7;", "1 150 0");
        fault("grow;".repeat(30) + "(", "1 150 0");
        fault("repeat 1(repeat 1(repeats", "1 18 2");
        // a "repeat" within two others (4) that is a 31st command (6)
        fault("repeat 1(repeat 1(" + "grow;".repeat(28) + "repeat 1(", "4 158 2");
        // an invalid token (1) that is no vertex (3), or above 20 (2)
        fault("apart abcdefghi a;", "1 6 0");
        fault("apart 1 a;", "1 6 0");
        fault("repeat 1000(", "1 7 0");
    }

    private static void leftToRight() {
        fault("repeat 0 $", "2 7 0");
        fault("repeat 21(repeat 0(", "2 7 0");
        fault("apart x $", "3 6 0");
        fault("apart x y;", "3 6 0");
        fault("step;repeat 1(jump;);$", "1 14 1");
        fault("repeat 1(repeat 1(repeat 1(););)$", "4 18 2");
        fault("grow;".repeat(31) + "$", "6 150 0");
    }

    /** A closing bracket and the end of the text stand in those that are still open there. */
    private static void brackets() {
        fault("repeat 1(step)", "1 13 1");
        fault("repeat 1(repeat 1(step)", "1 22 2");
        fault("repeat 1(repeat 1(step;))", "1 24 1");
        fault("repeat 1(repeat 1(step;);))", "1 26 0");
        fault("repeat 1(step;))", "1 15 0");
        fault("repeat 1(step;);)", "1 16 0");
        fault("repeat 1(credit )", "1 16 1");
        fault("repeat 1(", "1 9 1");
        fault("repeat 1(step;", "1 14 1");
        fault("repeat 1(step;)", "1 15 0");
        fault("repeat 1(repeat 1(", "1 18 2");
        fault("repeat 1(repeat 1(step;)  ", "1 26 1");
        fault("repeat 1(repeat 1(step;);", "1 25 1");
        fault("repeat 1(repeat 1(step;);)", "1 26 0");
        fault("repeat 1(repeat 1", "1 17 1");
        fault("repeat 1", "1 8 0");
    }

    /** The longest scripts: 800 bytes, and the most turns that there can be. */
    private static void longScript() {
        good(" ".repeat(795) + "step;");
        fault(" ".repeat(796) + "step", "1 800 0");
        fault(" ".repeat(791) + "repeat 1(", "1 800 1");
        String inner = "repeat 20();".repeat(28);
        ran(WIDE, "repeat 20(" + inner + "credit 3;);", 20, 3);
        ran(WIDE, "repeat 20(repeat 20(credit 1;);" + "repeat 20();".repeat(27) + ");", 40, 1);
        ran(WIDE, "repeat 1(repeat 1(" + "credit 1;".repeat(28) + "););", 28, 1);
    }

    /** 30 commands, nearly all of them with brackets, and the last of them with all that a command may tell. */
    private static void manyBrackets() {
        String text = WIDE.replace("parts 2", "parts 4");
        ShareGraph g = Kit.read(text);
        Kit.due("term 7: move as the 30th", Kit.run(g, "repeat 1();".repeat(29) + "move 3 2;"), 1);
        Kit.due("term 7: its part", Kit.parts(g), "0002");
        Kit.due("term 7: move within the 29th", Kit.run(g, "repeat 1();".repeat(28) + "repeat 1(move 2 3;);"), 1);
        Kit.due("term 7: its part", Kit.parts(g), "0032");
        ShareGraph two = Kit.read(WIDE);
        Kit.due("term 7: apart as the 30th", Kit.run(two, "repeat 1();".repeat(29) + "apart c d;"), 1);
        Kit.due("term 7: its parts", Kit.parts(two), "1101");
        ran(WIDE, "repeat 1();".repeat(28) + "repeat 7(credit 4;);", 7, 4);
        ran(WIDE, "repeat 3(" + "repeat 1();".repeat(27) + "repeat 5(credit 6;););", 15, 6);
    }

    /** Promise 5: the buffer is emptied, also if the text has an error. */
    private static void buffer() {
        ShareGraph g = Kit.read(Kit.SQUARE);
        Kit.feed(g, "step;");
        Kit.due("promise 5: one command", g.runScript(), 1);
        Kit.due("promise 5: the buffer is empty", g.runScript(), 0);
        Kit.feed(g, "step;step");
        Kit.fails("promise 5: an error", Kit.ARGUMENT, g::runScript);
        Kit.due("promise 5: the buffer is empty, too", g.feed(0, 0, 0, 0, 0), 20);
        g.truncate(0);
        Kit.due("promise 5: no step of it was made", g.events(), 1);
        Kit.feed(g, "vertex a 1;");
        Kit.fails("promise 5: a text is no script", Kit.ARGUMENT, g::runScript);
        Kit.due("promise 5: an empty text is left", g.readText(), 0);
    }
}
