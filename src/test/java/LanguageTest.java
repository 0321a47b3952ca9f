import java.io.IOException;
import java.lang.reflect.Constructor;
import java.lang.reflect.Field;
import java.lang.reflect.Method;
import java.lang.reflect.Modifier;
import java.nio.file.Files;
import java.nio.file.Path;
import java.util.ArrayList;
import java.util.List;
import java.util.Map;
import java.util.TreeMap;
import java.util.TreeSet;
import java.util.regex.Matcher;
import java.util.regex.Pattern;

/** The rules of LANGUAGE.md that can be seen in the source, and the document's face. */
public final class LanguageTest {
    private static final Due due = new Due();
    private static final String[] FACE = {"int feed(long)", "int end(int)", "int text()", "int fault()", "int told(int)",
        "int thing(int,int)", "int pattern(int,int,int)", "int put(int,int)", "int at(int)", "int lay(int,int,int,int)",
        "int ahead(int,int)", "int rings(int)", "int rank(int,int)", "long orders()", "long likely(int,int,int)",
        "int begins(int)", "int order(long,int)", "int size(int,int)", "int sure(int,int)", "int hands(int)",
        "int knot(int)", "int wipe()", "int slips(int,int)", "int knots()", "int fits(int,int,int,int)",
        "int copy(int,int,int,int,int)", "int best(int)", "int copies(int,int)", "int symmetries()", "int may(int,int)",
        "int lost(int)", "int fill()", "int undo()", "int stones(int)", "long works(int)", "int mix(int,int)",
        "int seams()", "int together(int)", "int sheet(int,int,int)", "int write(int,int,int)",
        "int read(int,int,int,int,int)", "int torn()", "int count(int)"};

    public static void main(String[] args) throws IOException {
        face();
        String source = Files.readString(Path.of("src/main/java/BeastFloor.java"));
        String bare = source.replaceAll("(?s)/\\*.*?\\*/", "").replaceAll("//[^\n]*", "")
            .replaceAll("\"[^\"\n]*\"", "TEXT").replaceAll("'[^'\n]+'", "0");
        words(bare);
        Map<String, String> bodies = methods(bare);
        depth(bodies);
        due.end();
    }

    private static void face() {
        due.holds("the class is public and final", BeastFloor.class.getModifiers() == (Modifier.PUBLIC | Modifier.FINAL));
        TreeSet<String> found = new TreeSet<>();
        TreeSet<String> names = new TreeSet<>();
        for (Method m : BeastFloor.class.getDeclaredMethods()) {
            if (!Modifier.isPrivate(m.getModifiers())) {
                due.holds(m + " is public", m.getModifiers() == Modifier.PUBLIC);
                StringBuilder b = new StringBuilder();
                for (Class<?> kind : m.getParameterTypes()) {
                    b.append(b.length() > 0 ? "," : "").append(kind.getName());
                }
                found.add(m.getReturnType().getName() + " " + m.getName() + "(" + b + ")");
                names.add(m.getName());
            }
        }
        due.holds("the face is the document's: " + found, found.equals(new TreeSet<>(List.of(FACE))));
        Constructor<?>[] made = BeastFloor.class.getDeclaredConstructors();
        due.holds("one public constructor", made.length == 1 && made[0].getModifiers() == Modifier.PUBLIC
            && made[0].getParameterCount() == 0);
        TreeSet<String> constants = new TreeSet<>();
        for (Field f : BeastFloor.class.getDeclaredFields()) {
            if (!Modifier.isPrivate(f.getModifiers())) {
                constants.add(f.getName());
            }
        }
        due.holds("constants " + constants, constants.equals(new TreeSet<>(List.of("BAD", "STATE", "FULL", "NONE"))));
        List<Class<?>> classes = new ArrayList<>(List.of(BeastFloor.class.getDeclaredClasses()));
        for (Class<?> c : classes) {
            due.holds(c + " is static", Modifier.isStatic(c.getModifiers()));
            due.holds(c + " is not public", !Modifier.isPublic(c.getModifiers()));
            for (Method m : c.getDeclaredMethods()) {
                due.holds(m + " bears no public name", !names.contains(m.getName()));
            }
        }
        for (Method m : BeastFloor.class.getDeclaredMethods()) {
            due.holds(m + " bears no public name", !Modifier.isPrivate(m.getModifiers()) || !names.contains(m.getName()));
        }
        classes.add(BeastFloor.class);
        due.holds("classes: " + classes.size(), classes.size() <= 12);
        for (Class<?> c : classes) {
            fields(c);
        }
    }

    private static void fields(Class<?> c) {
        int fields = 0;
        for (Field f : c.getDeclaredFields()) {
            if (Modifier.isStatic(f.getModifiers())) {
                due.holds(f + " is a constant", Modifier.isFinal(f.getModifiers()) && f.getType().isPrimitive());
            } else {
                fields++;
            }
        }
        due.holds(c + " has " + fields + " fields", fields <= 20);
    }

    private static void words(String bare) {
        String[] ruledOut = {"throw", "throws", "try", "catch", "finally", "synchronized", "assert", "package", "Thread",
            "System", "Object", "double", "float", "goto", "hashCode", "toString", "equals", "Exact", "random", "var"};
        for (String word : ruledOut) {
            due.holds("the word " + word, !Pattern.compile("\\b" + word + "\\b").matcher(bare).find());
        }
        due.holds("lambdas, method references", !bare.contains("->") && !bare.contains("::"));
        due.holds("static blocks", !Pattern.compile("static\\s*\\{").matcher(bare).find());
        due.holds("texts joined by +", !Pattern.compile("TEXT\\s*\\+|\\+\\s*TEXT").matcher(bare).find());
        Matcher imports = Pattern.compile("import ([\\w.]+);").matcher(bare);
        while (imports.find()) {
            due.holds("import of " + imports.group(1), imports.group(1).equals("java.util.Arrays"));
        }
        Matcher library = Pattern.compile("\\b(Math|Integer|Long|Arrays|String|Character)\\.(\\w+)").matcher(bare);
        List<String> fine = List.of("Math.max", "Math.min", "Math.abs", "Integer.bitCount", "Long.bitCount", "Arrays.fill");
        while (library.find()) {
            due.holds("library: " + library.group(), fine.contains(library.group()));
        }
        for (int i = 0; i < bare.length(); i++) {
            due.holds("signs are 1 to 127", bare.charAt(i) < 128);
        }
    }

    /** Bodies by name; those of one name are joined. */
    private static Map<String, String> methods(String bare) {
        Map<String, String> bodies = new TreeMap<>();
        Matcher m = Pattern.compile("\n( {4}| {8})(?:(?:public|private|static) )*[\\w\\[\\]]+ (\\w+)\\(([^)]*)\\) \\{(.*?)\n\\1\\}",
            Pattern.DOTALL).matcher(bare);
        while (m.find()) {
            String name = m.group(2);
            int lines = m.group(4).split("\n").length + 1;
            due.holds(name + " has " + lines + " lines", lines <= 60);
            due.holds(name + " has few parameters", m.group(3).split(",").length <= 7);
            bodies.merge(name, m.group(4), (a, b) -> a + b);
        }
        due.holds("methods are seen: " + bodies.size(), bodies.size() > 120);
        return bodies;
    }

    private static void depth(Map<String, String> bodies) {
        for (String name : bodies.keySet()) {
            int deep = deepest(name, bodies, 1);
            due.holds(name + " calls " + deep + " deep", deep <= 8);
        }
    }

    private static int deepest(String name, Map<String, String> bodies, int at) {
        int deep = at;
        if (at > 20) {
            return at;
        }
        Matcher calls = Pattern.compile("(?<!Arrays\\.)\\b(\\w+)\\(").matcher(bodies.get(name));
        TreeSet<String> called = new TreeSet<>();
        while (calls.find()) {
            called.add(calls.group(1));
        }
        for (String other : called) {
            if (bodies.containsKey(other)) {
                deep = Math.max(deep, deepest(other, bodies, at + 1));
            }
        }
        return deep;
    }
}
