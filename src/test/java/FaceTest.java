import java.io.IOException;
import java.lang.reflect.Constructor;
import java.lang.reflect.Field;
import java.lang.reflect.Member;
import java.lang.reflect.Method;
import java.lang.reflect.Modifier;
import java.nio.file.Files;
import java.nio.file.Path;
import java.util.ArrayList;
import java.util.Arrays;
import java.util.List;
import java.util.Set;
import java.util.TreeSet;
import java.util.regex.Matcher;
import java.util.regex.Pattern;

/** The public face of the document, and those rules of LANGUAGE.md that can be seen from outside or in the text. */
public final class FaceTest {
    private static final String[] FACE = {
        "int feed(int, int, int, int, int) STATE",
        "int truncate(int) ARGUMENT",
        "int readText() ARGUMENT",
        "int runScript() ARGUMENT",
        "int error(int) ARGUMENT",
        "int setting(int) ARGUMENT",
        "int weight(int) INDEX",
        "int edge(int, int) INDEX ARGUMENT",
        "int between(int, int) INDEX",
        "int flow(int, int) INDEX",
        "int side(int, int) INDEX",
        "int leastFlow()",
        "int partOf(int) INDEX",
        "int part(int, int) INDEX ARGUMENT",
        "int cut()",
        "int debts()",
        "int border()",
        "int heaviest()",
        "float cutShare()",
        "double imbalance()",
        "int group(int, int) INDEX ARGUMENT",
        "int groupOf(int) INDEX",
        "int whyNotShrink()",
        "int mate(int) INDEX",
        "int gain(int, int) INDEX",
        "int whyNotMove(int, int) INDEX",
        "int debtsIf(int, int) INDEX",
        "int nextStep()",
        "int bestDebts()",
        "int bestCut()",
        "int stepsToEnd(int) ARGUMENT",
        "int cutBehind(int) ARGUMENT",
        "int events()",
        "int event(int, int) INDEX ARGUMENT",
        "int shrink() STATE",
        "int grow() STATE",
        "int move(int, int) INDEX STATE",
        "int step()",
        "int steps(int) ARGUMENT",
        "int placeBest() STATE",
        "int placeApart(int, int) INDEX ARGUMENT STATE",
        "int setCredit(int) ARGUMENT",
        "int report()",
        "int reportByte(int) INDEX",
        "int undo()",
        "int save()",
        "int restore() STATE",
    };

    public static void main(String[] args) throws IOException {
        face();
        members();
        names();
        text(args.length == 0 ? "src/main/java/ShareGraph.java" : args[0]);
        Kit.end("FaceTest");
    }

    private static void face() {
        Set<String> found = new TreeSet<>();
        for (Method m : ShareGraph.class.getDeclaredMethods()) {
            if (Modifier.isPublic(m.getModifiers())) {
                found.add(told(m));
            }
        }
        Kit.due("the public methods", found.toString(), new TreeSet<>(Arrays.asList(FACE)).toString());
        Kit.due("the modifiers of the class", Modifier.toString(ShareGraph.class.getModifiers()), "public final");
        Kit.due("NONE", ShareGraph.NONE, -1);
    }

    private static String told(Method m) {
        StringBuilder text = new StringBuilder(Modifier.isStatic(m.getModifiers()) ? "static " : "");
        text.append(m.getReturnType()).append(' ').append(m.getName()).append('(');
        for (int i = 0; i < m.getParameterCount(); i++) {
            text.append(i == 0 ? "" : ", ").append(m.getParameterTypes()[i]);
        }
        text.append(')');
        for (Class<?> type : m.getExceptionTypes()) {
            text.append(type == Kit.INDEX ? " INDEX" : type == Kit.ARGUMENT ? " ARGUMENT" : type == Kit.STATE ? " STATE" : " ?");
        }
        return text.toString();
    }

    /** Rule 1 (no other member that can be seen) and rule 5 (static fields are final). */
    private static void members() {
        List<String> seen = new ArrayList<>();
        List<Member> members = new ArrayList<>(List.of(ShareGraph.class.getDeclaredFields()));
        members.addAll(List.of(ShareGraph.class.getDeclaredConstructors()));
        for (Member m : members) {
            if (!Modifier.isPrivate(m.getModifiers()) && !m.isSynthetic()) {
                seen.add(m instanceof Constructor ? "constructor" : m.getName());
            }
        }
        Kit.due("fields and constructors that can be seen", seen.toString(), "[NONE, constructor]");
        for (Method m : ShareGraph.class.getDeclaredMethods()) {
            Kit.due(m.getName() + " is public or private (1 yes)",
                Modifier.isPublic(m.getModifiers()) || Modifier.isPrivate(m.getModifiers()) ? 1 : 0, 1);
        }
        int classes = 1;
        for (Class<?> inside : ShareGraph.class.getDeclaredClasses()) {
            classes++;
            Kit.due(inside.getName() + " is static (1 yes)", Modifier.isStatic(inside.getModifiers()) ? 1 : 0, 1);
            Kit.due(inside.getName() + " has few fields (1 yes)", fieldsOf(inside) <= 20 ? 1 : 0, 1);
        }
        Kit.due("at most twelve classes (1 yes)", classes <= 12 ? 1 : 0, 1);
        Kit.due("at most twenty fields (1 yes)", fieldsOf(ShareGraph.class) <= 20 ? 1 : 0, 1);
    }

    private static int fieldsOf(Class<?> type) {
        int count = 0;
        for (Field f : type.getDeclaredFields()) {
            if (Modifier.isStatic(f.getModifiers())) {
                Kit.due(f.getName() + " is final (1 yes)", Modifier.isFinal(f.getModifiers()) ? 1 : 0, 1);
            } else {
                count++;
            }
        }
        return count;
    }

    /** Rule 1: no private method bears the name of a public one. */
    private static void names() {
        Set<String> publicNames = new TreeSet<>();
        for (Method m : ShareGraph.class.getMethods()) {
            publicNames.add(m.getName());
        }
        List<Method> hidden = new ArrayList<>(List.of(ShareGraph.class.getDeclaredMethods()));
        for (Class<?> inside : ShareGraph.class.getDeclaredClasses()) {
            hidden.addAll(List.of(inside.getDeclaredMethods()));
        }
        for (Method m : hidden) {
            if (!Modifier.isPublic(m.getModifiers())) {
                Kit.due(m.getName() + " is the name of a public method, too (0 no)", publicNames.contains(m.getName()) ? 1 : 0, 0);
            }
        }
    }

    /** What no line of the program may hold, strings and comments aside. */
    private static void text(String file) throws IOException {
        String program = Files.readString(Path.of(file)).replaceAll("(?s)/\\*.*?\\*/|//[^\n]*", "");
        String bare = program.replaceAll("\"[^\"\n]*\"", "\"\"");
        String[] banned = {"->", "::", "\\btry\\b", "\\bcatch\\b", "\\bfinally\\b", "\\bsynchronized\\b", "\\bassert\\b",
            "\\bpackage\\b", "\\bprotected\\b", "\\bstatic \\{", "\\bSystem\\.(?!arraycopy)", "Exact\\(", "\\bvar\\b",
            "\\b(Random|Thread|Scanner|Map|HashMap|Set|Object|Float|Double|Boolean|Character|Byte|Short)\\b",
            "\"\\s*\\+", "\\+\\s*\"", "\\bimport (?!java\\.util\\.Arrays;)", "\\bArrays\\.(?!fill\\(|copyOf\\(|copyOfRange\\()",
            "\\bMath\\.(?!min\\(|max\\(|abs\\()", "\\bInteger\\.(?!bitCount\\()", "[^\\x00-\\x7f]"};
        for (String pattern : banned) {
            Matcher m = Pattern.compile(pattern).matcher(bare);
            Kit.due("the program holds " + pattern, m.find() ? m.group() : "nothing", "nothing");
        }
        Matcher thrown = Pattern.compile("\\bthrow\\b(?! new (IllegalState|IllegalArgument|IndexOutOfBounds)Exception\\(\"\"\\);)")
            .matcher(bare);
        Kit.due("a throw of another form", thrown.find() ? thrown.group() : "nothing", "nothing");
    }
}
