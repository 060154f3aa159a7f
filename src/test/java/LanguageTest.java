import java.io.IOException;
import java.lang.reflect.Constructor;
import java.lang.reflect.Field;
import java.lang.reflect.Method;
import java.lang.reflect.Modifier;
import java.nio.file.Files;
import java.nio.file.Path;
import java.util.Set;
import java.util.TreeSet;
import java.util.regex.Matcher;
import java.util.regex.Pattern;

/** Those rules of shared/LANGUAGE.md that can be looked at from outside, and the face of the document. */
public final class LanguageTest {
    private static final Set<String> FACE = new TreeSet<>(Set.of(
        "int feed(int,int,int,int,int)", "int end(int)", "int code()", "int fault(int)", "int word(int,int)", "int item(int,int,int)",
        "int lay(int)", "int run(int)", "int call(int)", "int clear()", "int inline(int)", "int flip()", "boolean undo()", "boolean redo()",
        "int cell(int)", "int put(int)", "int comes(int,int,int,int,int)", "int alike(int,int)", "int differs(int,int)",
        "int shortest(int,int)", "int cheapest(int,int)", "int shuffled(int,int)", "int tidy(int)", "int takes(int,int)",
        "int time(int,int)", "int room(int,int)", "int best(int)", "int total(int)", "int calls(int)", "int callers(int)",
        "int nested(int)", "int pick(int)", "int commonest()", "int height(int,int)", "int pure()", "int law(int)", "int odds(int,int)",
        "int lies(int)", "int seen(int,int,int,int,boolean)", "boolean untell(int)", "int later(int)", "int fits(int)",
        "int fit(int,int)", "int ask(int,int,int,int)", "int image(int)", "int back(int)", "int about(int)"));

    public static void main(String[] args) throws IOException {
        face();
        classesInside();
        source();
        Check.done();
    }

    private static String told(Method m) {
        StringBuilder b = new StringBuilder(m.getReturnType().getName()).append(' ').append(m.getName()).append('(');
        for (Class<?> p : m.getParameterTypes()) {
            b.append(b.charAt(b.length() - 1) == '(' ? "" : ",").append(p.getName());
        }
        return b.append(')').toString();
    }

    private static void face() {
        Set<String> open = new TreeSet<>();
        for (Method m : StackWords.class.getDeclaredMethods()) {
            if (!Modifier.isPrivate(m.getModifiers())) {
                open.add(told(m));
                Check.due("public: " + m, Modifier.isPublic(m.getModifiers()), true);
            }
        }
        Check.due("the face: " + open, open.equals(FACE), true);
        for (Field f : StackWords.class.getDeclaredFields()) {
            Check.due("private but NONE: " + f, Modifier.isPrivate(f.getModifiers()), !f.getName().equals("NONE"));
        }
        for (Constructor<?> c : StackWords.class.getDeclaredConstructors()) {
            Check.due("constructor", Modifier.isPublic(c.getModifiers()) && c.getParameterCount() == 0, true);
        }
        Check.due("NONE", StackWords.NONE, -1);
        Check.due("final", Modifier.isFinal(StackWords.class.getModifiers()), true);
    }

    private static void classesInside() {
        Set<String> names = new TreeSet<>();
        for (String method : FACE) {
            names.add(method.substring(method.indexOf(' ') + 1, method.indexOf('(')));
        }
        Class<?>[] inside = StackWords.class.getDeclaredClasses();
        Check.due("some twelve classes", inside.length <= 12, true);
        for (Class<?> c : inside) {
            Check.due("static: " + c, Modifier.isStatic(c.getModifiers()), true);
            int fields = 0;
            for (Field f : c.getDeclaredFields()) {
                boolean constant = Modifier.isStatic(f.getModifiers());
                fields += constant ? 0 : 1;
                Check.due("static fields are final: " + f, !constant || Modifier.isFinal(f.getModifiers()), true);
            }
            Check.due("some twenty fields: " + c, fields <= 20, true);
            for (Method m : c.getDeclaredMethods()) {
                Check.due("a name of the face: " + m, names.contains(m.getName()), false);
                Check.due("seven parameters: " + m, m.getParameterCount() <= 7, true);
            }
        }
    }

    private static void source() throws IOException {
        String text = Files.readString(Path.of("src/main/java/StackWords.java"));
        Check.due("plain signs alone", text.matches("[\\x20-\\x7e\n]*"), true);
        String bare = text.replaceAll("(?s)/\\*.*?\\*/", "").replaceAll("//[^\n]*", "").replaceAll("\"[^\"\n]*\"", "\"\"");
        String[] refused = {"throw", "try", "catch", "synchronized", "assert", "protected", "System\\.(?!arraycopy)", "->", "::",
            "static \\{", "Math\\.\\w*Exact", "Random", "Thread", "hashCode", "toString", "package", "Integer\\.", "\\bwhile \\(true\\)", "for \\(;;"};
        for (String word : refused) {
            boolean plain = word.matches("[A-Za-z]+");
            Matcher m = Pattern.compile(plain ? "\\b" + word + "\\b" : word).matcher(bare);
            Check.due("refused: " + word, m.find(), false);
        }
        Matcher imports = Pattern.compile("import ([\\w.]+);").matcher(bare);
        while (imports.find()) {
            Check.due("import " + imports.group(1), Set.of("java.util.Arrays", "java.util.ArrayList", "java.util.List").contains(imports.group(1)), true);
        }
        lengths(bare);
    }

    private static void lengths(String bare) {
        String[] lines = bare.split("\n");
        int begin = -1;
        String indent = "";
        for (int i = 0; i < lines.length; i++) {
            Matcher m = Pattern.compile("^( +)(public |private |static )*[\\w\\[\\]]+ \\w+\\([^)]*\\) \\{$").matcher(lines[i]);
            if (m.find() && begin < 0) {
                begin = i;
                indent = m.group(1);
            } else if (begin >= 0 && lines[i].equals(indent + "}")) {
                Check.due("some sixty lines: " + lines[begin], i - begin + 1 <= 60, true);
                begin = -1;
            }
        }
    }
}
