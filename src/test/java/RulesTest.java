import java.lang.reflect.Constructor;
import java.lang.reflect.Field;
import java.lang.reflect.Method;
import java.lang.reflect.Modifier;
import java.nio.file.Files;
import java.nio.file.Path;
import java.util.Arrays;
import java.util.List;
import java.util.Set;
import java.util.TreeSet;
import java.util.regex.Matcher;
import java.util.regex.Pattern;

/** What of ../shared/LANGUAGE.md can be seen from the source and the compiled class. */
public final class RulesTest {
    private static final String[] FACE = {
        "int write(int)", "int wipe()", "int fault()", "int lay()", "int house(int,int,int)", "int eater(int,int)",
        "int way(int,int)", "int pass(int)", "int give(int,int,int,int)", "int toss(int,int,int)", "int undo()",
        "int taken(int)", "int first(int)", "int gift(int)", "int carried(int,int)", "int round(int,int,int)",
        "int bake(int,int,int)", "long buy(int,int,int,int,int)", "int soup(int)", "int gave(int,int)", "int pea(int,int)",
        "int evening(int,int)", "int keep()", "int back()", "int count(int)",
    };

    private static int wrong = 0;

    private static void must(boolean right, String rule) {
        if (!right) {
            wrong++;
            System.out.println("against the rules: " + rule);
        }
    }

    private static String signature(Method m) {
        StringBuilder s = new StringBuilder(m.getReturnType() + " " + m.getName() + "(");
        for (Class<?> c : m.getParameterTypes()) {
            s.append(s.charAt(s.length() - 1) == '(' ? "" : ",").append(c);
        }
        return s.append(")").toString();
    }

    private static void face() {
        Class<?> c = LeftAtFive.class;
        must(Modifier.isPublic(c.getModifiers()) && Modifier.isFinal(c.getModifiers()), "1: public and final");
        Set<String> open = new TreeSet<>();
        Set<String> names = new TreeSet<>();
        for (Method m : c.getDeclaredMethods()) {
            if (!Modifier.isPrivate(m.getModifiers())) {
                open.add(signature(m));
                names.add(m.getName());
            }
        }
        must(open.equals(new TreeSet<>(Arrays.asList(FACE))), "1: the face is " + open);
        noPrivateNames(c, names);
        for (Class<?> inner : c.getDeclaredClasses()) {
            must(!Modifier.isPublic(inner.getModifiers()) && !Modifier.isProtected(inner.getModifiers()), "1: open " + inner);
            noPrivateNames(inner, names);
        }
        Constructor<?>[] made = c.getDeclaredConstructors();
        must(made.length == 1 && Modifier.isPublic(made[0].getModifiers()) && made[0].getParameterCount() == 0, "1: constructor");
        List<String> constants = List.of("BAD", "NO", "FULL", "NONE");
        for (Field f : c.getDeclaredFields()) {
            must(Modifier.isPrivate(f.getModifiers()) || constants.contains(f.getName()), "1: field " + f.getName());
        }
    }

    private static void noPrivateNames(Class<?> c, Set<String> names) {
        for (Method m : c.getDeclaredMethods()) {
            must(!Modifier.isPrivate(m.getModifiers()) || !names.contains(m.getName()), "1: a private " + m);
        }
    }

    private static void classes() {
        Class<?>[] inner = LeftAtFive.class.getDeclaredClasses();
        must(inner.length <= 11, "11: some twelve classes");
        size(LeftAtFive.class);
        for (Class<?> c : inner) {
            must(Modifier.isStatic(c.getModifiers()), "2: static " + c);
            must(c.getDeclaredClasses().length == 0, "2: classes in " + c);
            size(c);
        }
    }

    private static void size(Class<?> c) {
        int fields = 0;
        for (Field f : c.getDeclaredFields()) {
            fields += Modifier.isStatic(f.getModifiers()) ? 0 : 1;
            must(!Modifier.isStatic(f.getModifiers()) || Modifier.isFinal(f.getModifiers()), "5: static " + f);
        }
        must(fields <= 20, "11: some twenty fields in " + c);
        for (Method m : c.getDeclaredMethods()) {
            must(m.getParameterCount() <= 7, "11: seven parameters in " + m);
            must(!m.isSynthetic(), "2: " + m);
        }
    }

    private static void words(String source) {
        String code = source.replaceAll("/\\*[\\s\\S]*?\\*/", "").replaceAll("//[^\n]*", "").replaceAll("\"[^\"]*\"", "\"\"");
        String[] none = {"throw", "throws", "try", "catch", "finally", "synchronized", "assert", "package", "import", "volatile",
            "native", "hashCode", "toString", "equals", "Object", "System\\.(?!arraycopy)\\w+", "Exact", "record", "var", "yield"};
        for (String word : none) {
            Matcher found = Pattern.compile("\\b" + word + "\\b").matcher(code);
            must(!found.find(), "the word " + word);
        }
        must(!code.contains("->") && !code.contains("::"), "2: a lambda or a method reference");
        must(source.chars().allMatch(letter -> letter < 128), "3: other signs");
        must(!code.contains("\"\" +") && !code.contains("+ \"\""), "10: texts joined by +");
    }

    private static void lengths(String source) {
        int begin = 0, line = 0;
        for (String text : source.split("\n")) {
            line++;
            if (text.matches(" {4}(?: {4})?\\w.*\\{")) {
                begin = line;
            }
            if (text.matches(" {4}(?: {4})?\\}") && !text.matches(" {4}\\}")) {
                must(line - begin <= 60, "11: a long method ends in line " + line);
            }
        }
    }

    public static void main(String[] args) throws Exception {
        String source = Files.readString(Path.of("src/main/java/LeftAtFive.java"));
        face();
        classes();
        words(source);
        lengths(source);
        System.out.println(wrong == 0 ? "the rules are kept" : wrong + " faults");
        if (wrong != 0) {
            System.exit(1);
        }
    }
}
