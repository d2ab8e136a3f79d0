/** Term 1, the text, sentence by sentence, on both sides of each bound; with promises 2 to 4 and 6. */
public final class Term1Test {
    private static final String AB = "vertex a 1;vertex b 1;";
    private static final String ABC = AB + "vertex c 1;";

    public static void main(String[] args) {
        buffer();
        feeds();
        truncates();
        statements();
        places();
        words();
        keywords();
        numbers();
        otherTokens();
        bytesAlone();
        bytesBetween();
        blanks();
        numbering();
        numberingOfKinds();
        vertexWeights();
        vertexCount();
        edgeEnds();
        edgeWeights();
        edgeCount();
        parts();
        allowances();
        once();
        names();
        positions();
        leftToRight();
        lowestCode();
        errorNumbers();
        emptyText();
        replaces();
        Kit.end("Term1Test");
    }

    private static void fault(String text, String error) {
        Kit.due("term 1: error of " + text, Kit.textError(text), error);
    }

    private static void good(String text) {
        fault(text, "none");
    }

    private static String blanks(int count) {
        return " ".repeat(count);
    }

    /** It is read from a buffer of at most 800 bytes. */
    private static void buffer() {
        String whole = "vertex a 1;" + blanks(778) + "vertex b 2;";
        Kit.due("term 1: a text of 800 bytes", whole.length(), 800);
        ShareGraph g = Kit.read(whole);
        Kit.due("term 1: its last statement", g.setting(0) * 100 + g.weight(1), 202);
        fault(blanks(799) + "$", "1 799 0");
        fault(blanks(792) + "vertex a", "1 800 0");
        fault("vertex a 1" + blanks(790), "1 800 0");
        fault("vertex a 1" + blanks(789) + ";", "none");
        fault("vertex a " + blanks(788) + "999", "2 797 0");
        fault("vertex " + blanks(785) + "abcdefgh", "1 800 0");
        ShareGraph cut = new ShareGraph();
        Kit.feed(cut, whole);
        cut.truncate(799);
        Kit.fails("term 1: the last byte is missing", Kit.ARGUMENT, cut::readText);
        Kit.due("term 1: its error", Kit.errorOf(cut), "1 799 0");
    }

    /** Promise 2: 20 bytes, the four bytes of each argument, the most significant byte first; never above 800. */
    private static void feeds() {
        for (int place = 0; place < 20; place++) {
            for (int value : new int[] {'$', 128, 160, 255, 0}) {
                int[] words = new int[5];
                for (int i = 0; i < 20; i++) {
                    words[i / 4] = (words[i / 4] << 8) | (i == place ? value : i % 2 == 0 ? 32 : 10);
                }
                ShareGraph g = new ShareGraph();
                Kit.due("promise 2: the first 20 bytes", g.feed(words[0], words[1], words[2], words[3], words[4]), 20);
                Kit.fails("promise 2: byte " + place + " of value " + value, Kit.ARGUMENT, g::readText);
                Kit.due("promise 2: its place", Kit.errorOf(g), "1 " + place + " 0");
            }
        }
        for (int length : new int[] {0, 1, 779, 780}) {
            ShareGraph g = spaces(length);
            Kit.due("promise 2: feed behind " + length, g.feed(0, 0, 0, 0, 0), length + 20);
        }
        for (int length : new int[] {781, 799, 800}) {
            ShareGraph g = spaces(length);
            Kit.fails("promise 2: feed behind " + length, Kit.STATE, () -> g.feed(0, 0, 0, 0, 0));
            Kit.due("promise 2: the buffer is as it was", g.truncate(length), length);
            Kit.due("promise 2: its bytes are as they were", g.readText(), 0);
        }
    }

    private static ShareGraph spaces(int length) {
        ShareGraph g = new ShareGraph();
        Kit.feed(g, blanks(length));
        return g;
    }

    /** Promise 3. */
    private static void truncates() {
        for (int length : new int[] {0, 1, 20, 799, 800}) {
            ShareGraph g = spaces(length);
            Kit.fails("promise 3: above " + length, Kit.ARGUMENT, () -> g.truncate(length + 1));
            Kit.fails("promise 3: negative", Kit.ARGUMENT, () -> g.truncate(-1));
            Kit.due("promise 3: the present length", g.truncate(length), length);
            Kit.due("promise 3: nothing", g.truncate(0), 0);
            Kit.fails("promise 3: nothing is left", Kit.ARGUMENT, () -> g.truncate(1));
        }
        ShareGraph g = new ShareGraph();
        Kit.feed(g, "vertex a 1;$");
        Kit.due("promise 3: a byte less", g.truncate(11), 11);
        // "vertex b 2;" comes right behind what is left
        Kit.due("promise 3: fed behind it", g.feed(0x76657274, 0x65782062, 0x20323b20, 0x20202020, 0x20202020), 31);
        Kit.due("promise 3: both are read", g.readText(), 2);
        // what is cut off is not read, though it stood there
        for (int length : new int[] {8, 10, 14, 15, 16}) {
            ShareGraph rest = new ShareGraph();
            Kit.feed(rest, "vertex abc     12;");
            rest.truncate(length);
            Kit.fails("promise 3: cut off at " + length, Kit.ARGUMENT, rest::readText);
            Kit.due("promise 3: the error of the rest", Kit.errorOf(rest), "1 " + length + " 0");
        }
    }

    /** text = { statement ";" } */
    private static void statements() {
        good("");
        good(blanks(1));
        good("vertex a 1;");
        good("vertex a 1;vertex b 1;edge a b 1;parts 2;slack 0;credit 0;");
        good("credit 0;slack 0;parts 2;vertex b 1;vertex a 1;edge a b 1;");
        fault("vertex a 1;vertex b 1", "1 21 0");
        fault("vertex a 1 vertex b 1;", "1 11 0");
        fault(";vertex a 1;", "1 0 0");
        fault("vertex a 1;;", "1 11 0");
        fault("parts 2;;", "1 8 0");
    }

    /** At each place of each statement each token of another kind is not allowed, and neither is the end. */
    private static void places() {
        places("", "vertex", "x", "1", ";");
        places(AB, "edge", "a", "b", "1", ";");
        places("", "parts", "2", ";");
        places("", "slack", "2", ";");
        places("", "credit", "2", ";");
    }

    private static void places(String before, String... tokens) {
        StringBuilder text = new StringBuilder(before);
        for (int place = 0; place < tokens.length; place++) {
            for (String other : new String[] {"x", "1", ";", "(", ")", "$", "abcdefghi", "1000"}) {
                boolean isOfOneKind = other.charAt(0) == tokens[place].charAt(0)
                    || Character.isLetter(other.charAt(0)) && Character.isLetter(tokens[place].charAt(0))
                    || Character.isDigit(other.charAt(0)) && Character.isDigit(tokens[place].charAt(0));
                if (place == 0 || other.length() > 3 || !isOfOneKind) {
                    fault(text + other, "1 " + text.length() + " 0");
                }
            }
            if (place > 0) {
                fault(text.toString(), "1 " + text.length() + " 0");
            }
            text.append(tokens[place]).append(' ');
        }
        good(text.toString());
    }

    /** A word is a maximal run of letters a to z, at most 8 of them; a NAME is any word. */
    private static void words() {
        good("vertex a 1;vertex z 1;vertex aa 1;vertex zzzzzzzz 1;vertex aaaaaaaa 1;vertex aaaaaaa 1;");
        good("vertex abcdefgh 1;vertex bcdefghi 1;vertex abcdefg 1;");
        fault("vertex abcdefghi 1;", "1 7 0");
        fault("vertex aaaaaaaaaaaaaaaa 1;", "1 7 0");
        fault("vertex  abcdefghij", "1 8 0");
        fault("vertex abcdefgh 1;vertex a 1;edge abcdefgh abcdefghi 1;", "1 43 0");
        good("vertex vertex 1;vertex edge 1;vertex parts 1;vertex slack 1;vertex credit 1;edge edge vertex 1;"
            + "edge parts slack 2;");
        // two words with a gap, where one is due
        fault("vertex ab cd 1;", "1 10 0");
        fault("vertex A 1;", "1 7 0");
        fault("vertex Z 1;", "1 7 0");
        fault("vertex aB 1;", "1 8 0");
        ShareGraph g = Kit.read("vertex aaaaaaaa 1;vertex aaaaaaab 2;vertex zzzzzzzz 3;vertex h 4;vertex p 5;"
            + "edge zzzzzzzz aaaaaaab 1;");
        Kit.due("term 1: names of 8 letters are told from each other", g.edge(0, 0) * 10 + g.edge(0, 1), 21);
        Kit.due("term 1: names", Kit.reportOf(g), "0: aaaaaaaa aaaaaaab zzzzzzzz h p\n1:\n");
    }

    private static void keywords() {
        fault("verte a 1;", "1 0 0");
        fault("vertexa 1;", "1 0 0");
        fault("vertexes a 1;", "1 0 0");
        fault("vertexess a 1;", "1 0 0");
        fault("vertey a 1;", "1 0 0");
        fault("xvertex a 1;", "1 0 0");
        fault("ertex a 1;", "1 0 0");
        fault("edg a b 1;", "1 0 0");
        fault("edges a b 1;", "1 0 0");
        fault("part 2;", "1 0 0");
        fault("partss 2;", "1 0 0");
        fault("slac 2;", "1 0 0");
        fault("slacks 2;", "1 0 0");
        fault("credi 2;", "1 0 0");
        fault("credits 2;", "1 0 0");
        fault("a;", "1 0 0");
        for (String command : new String[] {"shrink", "grow", "move 0 1", "step", "steps 1", "best", "apart a b",
            "repeat 2(step;)"}) {
            fault(command + ";", "1 0 0");
        }
    }

    /** A number N is a maximal run of digits, at most 3 of them. */
    private static void numbers() {
        good("vertex a 1;");
        good("vertex a 01;");
        good("vertex a 001;");
        fault("vertex a 0001;", "1 9 0");
        fault("vertex a 00000000001;", "1 9 0");
        good("slack 0;");
        good("slack 00;");
        good("slack 000;");
        fault("slack 0000;", "1 6 0");
        good("slack 099;");
        fault("slack 0099;", "1 6 0");
        fault("slack 999;", "2 6 0");
        fault("slack 1000;", "1 6 0");
        fault("slack 4294967296;", "1 6 0");
        fault("slack 1 2;", "1 8 0");
        Kit.due("term 1: the digits 0 and 9", Kit.read("slack 90;").setting(3), 90);
        Kit.due("term 1: the digits in their order", Kit.read("slack 012;").setting(3), 12);
        fault("slack +1;", "1 6 0");
        fault("slack -1;", "1 6 0");
        fault("slack 1.5;", "1 7 0");
    }

    /** The other tokens are the single characters ; ( and ). */
    private static void otherTokens() {
        for (String sign : new String[] {"(", ")", "((", "))", "()"}) {
            fault(sign, "1 0 0");
            fault("vertex a 1" + sign + ";", "1 10 0");
            fault("vertex a 1;" + sign, "1 11 0");
        }
        for (String sign : new String[] {"[", "]", "{", "}", ",", ":", "'", "*", "+", "<", "@"}) {
            fault(sign, "1 0 0");
            fault("slack 1" + sign, "1 7 0");
        }
    }

    /** Each of the 256 bytes as a text of its own. */
    private static void bytesAlone() {
        for (int value = 0; value < 256; value++) {
            fault(String.valueOf((char) value), value == 32 || value == 10 ? "none" : "1 0 0");
        }
    }

    /** Each of the 256 bytes between a number and its semicolon, and directly behind a name. */
    private static void bytesBetween() {
        for (int value = 0; value < 256; value++) {
            char sign = (char) value;
            boolean isBlank = value == 32 || value == 10;
            boolean isDigit = sign >= '0' && sign <= '9';
            boolean isLetter = sign >= 'a' && sign <= 'z';
            String behindNumber = isBlank || isDigit ? "none" : sign == ';' ? "1 11 0" : "1 10 0";
            fault("vertex a 1" + sign + ";", behindNumber);
            String behindName = isBlank || isLetter ? "none" : sign == '0' ? "2 8 0" : isDigit ? "1 10 0" : "1 8 0";
            fault("vertex a" + sign + " 1;", behindName);
            String inKeyword = isBlank ? "none" : isDigit ? "1 6 0" : isLetter ? "1 0 0" : "1 6 0";
            fault("vertex" + sign + "a 1;", inKeyword);
        }
    }

    /** Spaces and line feeds may stand before, between and behind tokens. */
    private static void blanks() {
        for (String gap : new String[] {" ", "\n", "  ", " \n", "\n\n \n"}) {
            ShareGraph g = Kit.read(gap + "vertex" + gap + "a" + gap + "7" + gap + ";" + gap + "vertex" + gap + "b" + gap
                + "8" + gap + ";" + gap + "edge" + gap + "a" + gap + "b" + gap + "9" + gap + ";" + gap);
            Kit.due("term 1: blanks", g.weight(0) * 100 + g.weight(1) * 10 + g.edge(0, 2), 789);
        }
        ShareGraph none = Kit.read("parts3;slack4;credit5;vertex a1;");
        Kit.due("term 1: no blanks", none.setting(2) * 100 + none.setting(3) * 10 + none.setting(4), 345);
        fault("ver tex a 1;", "1 0 0");
        fault("vertex a 1 1;", "1 11 0");
        fault("vertex\ta 1;", "1 6 0");
        fault("vertex a 1;\r\n", "1 11 0");
        fault("vertex a 1; \u000b", "1 12 0");
        fault("vertex a 1; \u0000", "1 12 0");
        fault("vertex a 1; \u00a0", "1 12 0");
    }

    /** Vertices and edges have numbers, each from 0, in the order of their statements. */
    private static void numbering() {
        StringBuilder text = new StringBuilder();
        for (int i = 0; i < 14; i++) {
            text.append("vertex ").append((char) ('n' - i)).append(' ').append(50 + i).append(';');
        }
        int made = 0;
        for (int v = 13; v >= 0; v--) {
            for (int w = 0; w < v && made < 40; w++) {
                text.append("edge ").append((char) ('n' - v)).append(' ').append((char) ('n' - w)).append(' ');
                text.append(60 - made).append(';');
                made++;
            }
        }
        ShareGraph g = Kit.read(text.toString());
        Kit.due("term 1: 14 vertices and 40 edges", g.setting(0) * 100 + g.setting(1), 1440);
        for (int v = 0; v < 14; v++) {
            Kit.due("term 1: weight of vertex " + v, g.weight(v), 50 + v);
        }
        made = 0;
        for (int v = 13; v >= 0; v--) {
            for (int w = 0; w < v && made < 40; w++) {
                Kit.due("term 1: vertices of edge " + made, g.edge(made, 0) * 100 + g.edge(made, 1), v * 100 + w);
                Kit.due("term 1: weight of edge " + made, g.edge(made, 2), 60 - made);
                made++;
            }
        }
        Kit.due("term 1: names of vertices", Kit.reportOf(g), "0: n m l k j i h g f e d c b a\n1:\n");
    }

    private static void numberingOfKinds() {
        ShareGraph g = Kit.read("vertex b 3;slack 1;vertex a 4;edge a b 5;vertex c 6;parts 2;edge b c 7;vertex d 8;");
        Kit.due("term 1: vertices between other statements",
            g.weight(0) * 1000 + g.weight(1) * 100 + g.weight(2) * 10 + g.weight(3), 3468);
        Kit.due("term 1: edges between other statements", g.edge(0, 2) * 10 + g.edge(1, 2), 57);
        Kit.due("term 1: the vertices of edge 0 as told", g.edge(0, 0) * 10 + g.edge(0, 1), 10);
        Kit.due("term 1: the vertices of edge 1 as told", g.edge(1, 0) * 10 + g.edge(1, 1), 2);
    }

    /** "vertex" tells the weight of a vertex (1 to 99). */
    private static void vertexWeights() {
        fault("vertex a 0;", "2 9 0");
        fault("vertex a 00;", "2 9 0");
        fault("vertex a 000;", "2 9 0");
        Kit.due("term 1: weight 1", Kit.read("vertex a 1;").weight(0), 1);
        Kit.due("term 1: weight 99", Kit.read("vertex a 99;").weight(0), 99);
        Kit.due("term 1: weight 099", Kit.read("vertex a 099;").weight(0), 99);
        fault("vertex a 100;", "2 9 0");
        fault("vertex a 999;", "2 9 0");
    }

    /** At most 14 vertices; 6: the first word of a 15th one. */
    private static void vertexCount() {
        for (int count : new int[] {0, 1, 2, 13, 14}) {
            good(Kit.vertices(count));
            Kit.due("term 1: vertices", Kit.read(Kit.vertices(count)).setting(0), count);
        }
        fault(Kit.vertices(15), "6 154 0");
        fault(Kit.vertices(14) + "  vertex", "6 156 0");
        fault(Kit.vertices(14) + "vertex a 1;", "6 154 0");
        fault(Kit.vertices(14) + "vertex $", "6 154 0");
        fault(Kit.vertices(14) + "slack 1;vertex o 1;", "6 162 0");
        good(Kit.vertices(14) + "edge a n 1;parts 3;slack 4;credit 5;");
        fault(Kit.vertices(14) + "vertexes o 1;", "1 154 0");
    }

    /** "edge" tells two different vertices; two vertices have at most one edge. */
    private static void edgeEnds() {
        good(AB + "edge a b 1;");
        good(AB + "edge b a 1;");
        fault(AB + "edge a a 1;", "3 29 0");
        fault(AB + "edge b b 1;", "3 29 0");
        fault(AB + "edge a b 1;edge a b 1;", "4 40 0");
        fault(AB + "edge a b 1;edge b a 1;", "4 40 0");
        fault(AB + "edge b a 1;edge a b 1;", "4 40 0");
        fault(AB + "edge b a 1;edge b a 1;", "4 40 0");
        good(ABC + "edge a b 1;edge b c 1;edge c a 1;");
        fault(ABC + "edge a b 1;edge b c 1;edge c a 1;edge c b 1;", "4 73 0");
        fault(ABC + "edge a b 1;edge b c 1;edge a b", "4 62 0");
    }

    /** The weight of an edge is 1 to 99. */
    private static void edgeWeights() {
        fault(AB + "edge a b 0;", "2 31 0");
        Kit.due("term 1: edge of 1", Kit.read(AB + "edge a b 1;").edge(0, 2), 1);
        Kit.due("term 1: edge of 99", Kit.read(AB + "edge a b 99;").edge(0, 2), 99);
        fault(AB + "edge a b 100;", "2 31 0");
        fault(AB + "edge a b 999;", "2 31 0");
        fault(AB + "edge a b 1000;", "1 31 0");
    }

    /** At most 40 edges; 6: the first word of a 41st one. */
    private static void edgeCount() {
        for (int count : new int[] {0, 1, 39, 40}) {
            good(Kit.vertices(14) + Kit.edges(count));
            Kit.due("term 1: edges", Kit.read(Kit.vertices(14) + Kit.edges(count)).setting(1), count);
        }
        fault(Kit.vertices(14) + Kit.edges(41), "6 594 0");
        fault(Kit.vertices(14) + Kit.edges(40) + "edge", "6 594 0");
        fault(Kit.vertices(14) + Kit.edges(40) + "edge a b 1;", "6 594 0");
        fault(Kit.vertices(14) + Kit.edges(40) + "edge $ $", "6 594 0");
        fault(Kit.vertices(14) + Kit.edges(40) + "parts 2;edge m n 1;", "6 602 0");
        good(Kit.vertices(14) + Kit.edges(40) + "parts 4;slack 99;credit 99;");
    }

    /** "parts" tells how many parts there are (2 to 4; 2 without it). */
    private static void parts() {
        Kit.due("term 1: parts without it", Kit.read("slack 3;").setting(2), 2);
        for (int parts = 0; parts < 7; parts++) {
            if (parts >= 2 && parts <= 4) {
                Kit.due("term 1: parts", Kit.read("parts " + parts + ";").setting(2), parts);
            } else {
                fault("parts " + parts + ";", "2 6 0");
            }
        }
        fault("parts 999;", "2 6 0");
        good("parts 002;");
    }

    /** "slack" and "credit" tell two allowances (0 to 99 each; 0 without it). */
    private static void allowances() {
        Kit.due("term 1: slack without it", Kit.read("credit 9;").setting(3), 0);
        Kit.due("term 1: credit without it", Kit.read("slack 9;").setting(4), 0);
        for (int number : new int[] {0, 1, 98, 99}) {
            Kit.due("term 1: slack", Kit.read("slack " + number + ";").setting(3), number);
            Kit.due("term 1: credit", Kit.read("credit " + number + ";").setting(4), number);
        }
        fault("slack 100;", "2 6 0");
        fault("credit 100;", "2 7 0");
        fault("credit 999;", "2 7 0");
    }

    /** Each of these three may stand once; 4: the first word of a second statement of such a kind. */
    private static void once() {
        for (String kind : new String[] {"parts", "slack", "credit"}) {
            String one = kind + " 2;";
            good(one);
            fault(one + one, "4 " + one.length() + " 0");
            fault(one + " " + kind, "4 " + (one.length() + 1) + " 0");
            fault(one + kind + " $", "4 " + one.length() + " 0");
            fault(one + "vertex a 1;" + one, "4 " + (one.length() + 11) + " 0");
            String others = "parts 2;slack 2;credit 2;".replace(one, "");
            good(one + others);
            good(others + one);
            fault(others + one + one, "4 25 0");
            fault(one + others + one, "4 25 0");
            fault(kind + " 999;" + kind + " 2;", "2 " + (kind.length() + 1) + " 0");
        }
        // a text that had an error does not count for the next one
        ShareGraph g = new ShareGraph();
        Kit.feed(g, "parts 3;slack 4;credit 5;$");
        Kit.fails("term 1: an error", Kit.ARGUMENT, g::readText);
        Kit.feed(g, "parts 3;slack 4;credit 5;");
        Kit.due("term 1: each once in the next text", g.readText(), 0);
        Kit.feed(g, "parts 4;slack 5;credit 6;");
        Kit.due("term 1: and in the one behind it", g.readText(), 0);
        Kit.due("term 1: what it tells", g.setting(2) * 100 + g.setting(3) * 10 + g.setting(4), 456);
    }

    /** 3: a NAME that a vertex has already; of an edge that no vertex has; the second NAME if it is the first one. */
    private static void names() {
        fault("vertex a 1;vertex a 2;", "3 18 0");
        fault(ABC + "vertex a 1;", "3 40 0");
        fault(ABC + "vertex c", "3 40 0");
        good(ABC + "vertex ab 1;vertex aa 1;vertex aaa 1;");
        fault("edge a b 1;", "3 5 0");
        fault("edge a", "3 5 0");
        fault(AB + "edge x a 1;", "3 27 0");
        fault(AB + "edge a x 1;", "3 29 0");
        fault(AB + "edge x x 1;", "3 27 0");
        fault(AB + "edge aa b 1;", "3 27 0");
        fault(AB + "edge a a", "3 29 0");
        // a vertex that is told only behind the edge is not there yet
        fault("vertex a 1;edge a b 1;vertex b 1;", "3 18 0");
        fault("edge a b 1;vertex a 1;vertex b 1;", "3 5 0");
        // the names of another text are not there
        ShareGraph g = Kit.read(AB);
        Kit.feed(g, "edge a b 1;");
        Kit.fails("term 1: names of the text before", Kit.ARGUMENT, g::readText);
        Kit.due("term 1: its error", Kit.errorOf(g), "3 5 0");
        Kit.feed(g, "vertex a 1;vertex b 1;");
        Kit.due("term 1: the same names in the next text", g.readText(), 2);
    }

    /** A position is the index of the first byte of a token, or the length of the text if it ends too early. */
    private static void positions() {
        fault("$", "1 0 0");
        fault(" $", "1 1 0");
        fault("\n\n\n$", "1 3 0");
        fault("abcdefghi", "1 0 0");
        fault("vertex abcdefghijkl", "1 7 0");
        fault("vertex a 12345", "1 9 0");
        fault("vertex", "1 6 0");
        fault("vertex   ", "1 9 0");
        fault("vertex a\n", "1 9 0");
        fault("vertex a 1", "1 10 0");
        fault("vertex a 1   ", "1 13 0");
        fault("  slack 100 ;", "2 8 0");
        fault("vertex a 1; vertex  a  1;", "3 20 0");
        fault(AB + "edge a b 1; edge  a  b  1;", "4 43 0");
        fault("slack 1;   slack 1;", "4 11 0");
    }

    /** Tokens are checked from left to right and the first error is reported. */
    private static void leftToRight() {
        fault("slack 100;$", "2 6 0");
        fault("slack 100$", "2 6 0");
        fault("vertex a 1;vertex a $", "3 18 0");
        fault(AB + "edge a b 1;edge a b $", "4 40 0");
        fault(AB + "edge a b 1;edge a b 0;", "4 40 0");
        fault("slack 1;slack $", "4 8 0");
        fault("slack 1;slack 100;", "4 8 0");
        fault(Kit.vertices(14) + "vertex $", "6 154 0");
        fault("edge x $", "3 5 0");
        fault("edge x x", "3 5 0");
        fault("$ slack 100;", "1 0 0");
        fault("slack 100;slack 1;slack 1;vertex a 0;", "2 6 0");
        fault("vertex a 0;vertex a 1;", "2 9 0");
    }

    /** If several codes apply at one token, the lowest one. */
    private static void lowestCode() {
        // an invalid token (1) where a number is due that would be out of its range (2)
        fault("slack 1000;", "1 6 0");
        // an invalid token (1) that no vertex has as its name (3)
        fault(AB + "edge abcdefghi a 1;", "1 27 0");
        fault(AB + "edge a abcdefghi 1;", "1 29 0");
        fault("vertex a 1;vertex abcdefghi 1;", "1 18 0");
        // a token that is not allowed (1) where a NAME is due that no vertex has (3)
        fault("edge 1 1 1;", "1 5 0");
        fault("edge ; a 1;", "1 5 0");
        // no statement (1), behind the last vertex and the last edge (6), and behind each that may stand once (4)
        fault(Kit.vertices(14) + Kit.edges(40) + "parts 2;slack 1;credit 1;step;", "1 619 0");
    }

    /** Promise 6: without an error, or without such a call, 0 for the code and NONE for the others. */
    private static void errorNumbers() {
        ShareGraph g = new ShareGraph();
        Kit.due("promise 6: without a call", Kit.errorOf(g), "0 -1 -1");
        g.readText();
        Kit.due("promise 6: without an error", Kit.errorOf(g), "0 -1 -1");
        Kit.feed(g, "  $");
        Kit.fails("promise 6: an error", Kit.ARGUMENT, g::readText);
        Kit.due("promise 6: its numbers", Kit.errorOf(g), "1 2 0");
        Kit.feed(g, "slack 100;");
        Kit.fails("promise 6: the next one", Kit.ARGUMENT, g::readText);
        Kit.due("promise 6: the latest one", Kit.errorOf(g), "2 6 0");
        Kit.feed(g, "repeat 1 ( $");
        Kit.due("promise 6: a feed leaves it", Kit.errorOf(g), "2 6 0");
        Kit.fails("promise 6: of a script", Kit.ARGUMENT, g::runScript);
        Kit.due("promise 6: the latest one", Kit.errorOf(g), "1 11 1");
        Kit.feed(g, "$");
        Kit.fails("promise 6: a text again", Kit.ARGUMENT, g::readText);
        Kit.due("promise 6: 0 for a text", Kit.errorOf(g), "1 0 0");
        Kit.due("promise 6: a script without an error", g.runScript(), 0);
        Kit.due("promise 6: no error is left", Kit.errorOf(g), "0 -1 -1");
    }

    /** Promise 1: a new object is as if an empty text was read, with an empty buffer. */
    private static void emptyText() {
        ShareGraph g = new ShareGraph();
        Kit.due("promise 4: an empty text", g.readText(), 0);
        Kit.due("promise 1: as if an empty text was read", Twins.all(g), Twins.all(new ShareGraph()));
        ShareGraph h = Kit.read(Kit.SQUARE + "slack 3;credit 4;");
        h.steps(9);
        Kit.due("promise 4: an empty text", h.readText(), 0);
        Kit.due("promise 4: it replaces all", Twins.all(h), Twins.all(new ShareGraph()));
        ShareGraph fed = new ShareGraph();
        Kit.due("promise 1: an empty buffer", fed.feed(0, 0, 0, 0, 0), 20);
    }

    /** Promise 4: a text replaces all that there is but what is saved and the latest report, and empties the buffer. */
    private static void replaces() {
        ShareGraph g = Kit.read(Kit.SQUARE.replace("parts 2;", "parts 3;slack 9;credit 99;"));
        Kit.run(g, "shrink;move 0 2;credit 4;");
        g.report();
        g.save();
        g.setCredit(3);
        Kit.feed(g, "vertex x 4;vertex y 5;edge y x 6;credit 7;");
        Kit.due("promise 4: vertices", g.readText(), 2);
        ShareGraph same = Kit.read("vertex x 4;vertex y 5;edge y x 6;credit 7;");
        Kit.due("promise 4: nothing is left of undo", g.undo(), ShareGraph.NONE);
        Kit.due("promise 4: nothing is left of the events", g.events(), 0);
        Kit.due("promise 4: the level", g.setting(8), 0);
        Kit.due("promise 4: the buffer", g.feed(0, 0, 0, 0, 0), 20);
        g.truncate(0);
        Kit.due("promise 4: the report is left", g.reportByte(0) * 1000 + g.reportByte(3), '0' * 1000 + 'c');
        Kit.due("promise 4: all else", Kit.state(g), Kit.state(same));
        Kit.due("promise 4: what is saved is left", g.restore(), 3);
        Kit.due("promise 4: its parts", Kit.parts(g) + Kit.groups(g) + g.setting(4), "220000114");
    }
}
