import java.io.IOException;
import java.lang.reflect.Constructor;
import java.lang.reflect.Field;
import java.lang.reflect.Method;
import java.lang.reflect.Modifier;
import java.nio.file.Files;
import java.nio.file.Path;
import java.util.ArrayList;
import java.util.Arrays;
import java.util.HashSet;
import java.util.List;
import java.util.Set;
import java.util.TreeSet;
import java.util.regex.Matcher;
import java.util.regex.Pattern;

/** The rules of LANGUAGE.md that can be seen from the source and from the compiled class. */
public final class LanguageTest {
    private static final String[] FACE = {
        "int feed(int,int,int,int,int)", "int tell(int,int)", "int under(int,int)", "int inflate(int)", "int fault()",
        "int make(int,int,int,int)", "int undo()", "int basis(int,int)", "int many(int,int)", "int avoider(int,int,int)",
        "int rank(int,int)", "int occurrences(int,int)", "int occurrence(int,int,int)", "int sites(int,int)",
        "int labelled(int,int,int)", "int rule(int,int,int)", "int of(int,int)", "int part(int,int)", "int simples(int,int)",
        "long recurrence(int,int,boolean)", "int degree(int)", "int parts(int,int,boolean)", "int ask(int,int,int)"};
    private static final String[] BARRED = {
        "->", "::", "\\bfinally\\b", "\\bsynchronized\\b", "\\bassert\\b", "Exact\\b", "\\bThread\\b", "\\bRandom\\b", "\\bclone\\b",
        "\\bSystem\\.(?!arraycopy)", "\\bcatch\\b", "\\btry\\b", "\\bprotected\\b", "\\bvar\\b", "getMessage", "hashCode", "toString",
        "\\.ordinal\\b", "\\.name\\(", "\\bdouble\\b", "\\bfloat\\b", "\\bObject\\b", "\\bpackage\\b", "\\bnative\\b", "\\bvolatile\\b"};
    private static int wrong;

    public static void main(String[] args) throws IOException {
        face();
        for (Class<?> one : classes()) {
            members(one);
        }
        source(Files.readString(Path.of("src/main/java/UnpatternedRows.java")));
        System.out.println(wrong == 0 ? "the language is kept" : wrong + " breaches of the language");
        if (wrong != 0) {
            System.exit(1);
        }
    }

    private static void breach(String what) {
        wrong++;
        System.out.println(what);
    }

    private static List<Class<?>> classes() {
        List<Class<?>> all = new ArrayList<>();
        all.add(UnpatternedRows.class);
        all.addAll(Arrays.asList(UnpatternedRows.class.getDeclaredClasses()));
        return all;
    }

    private static void face() {
        Set<String> due = new TreeSet<>(Arrays.asList(FACE));
        Set<String> got = new TreeSet<>();
        for (Method method : UnpatternedRows.class.getDeclaredMethods()) {
            if (!Modifier.isPrivate(method.getModifiers())) {
                List<String> types = new ArrayList<>();
                for (Class<?> type : method.getParameterTypes()) {
                    types.add(type.getName());
                }
                got.add(method.getReturnType().getName() + " " + method.getName() + "(" + String.join(",", types) + ")");
                if (!Modifier.isPublic(method.getModifiers()) || Modifier.isStatic(method.getModifiers())) {
                    breach("rule 1: " + method + " is no public method of an object");
                }
            }
        }
        if (!due.equals(got)) {
            breach("rule 1: the face is " + got);
        }
        for (Field field : UnpatternedRows.class.getDeclaredFields()) {
            if (!Modifier.isPrivate(field.getModifiers()) && !field.getName().equals("NONE")) {
                breach("rule 1: " + field);
            }
        }
        Constructor<?>[] ways = UnpatternedRows.class.getDeclaredConstructors();
        if (ways.length != 1 || ways[0].getParameterCount() != 0 || !Modifier.isPublic(ways[0].getModifiers())) {
            breach("rule 1: the constructors");
        }
        if (!Modifier.isFinal(UnpatternedRows.class.getModifiers())) {
            breach("rule 1: the class is not final");
        }
        if (classes().size() > 12) {
            breach("rule 11: " + classes().size() + " classes");
        }
    }

    private static void members(Class<?> one) {
        Set<String> names = new HashSet<>();
        for (String method : FACE) {
            names.add(method.substring(method.indexOf(' ') + 1, method.indexOf('(')));
        }
        if (one != UnpatternedRows.class && !Modifier.isStatic(one.getModifiers())) {
            breach("rule 1: " + one + " is not static");
        }
        for (Method method : one.getDeclaredMethods()) {
            if (method.getParameterCount() > 7) {
                breach("rule 11: " + method);
            }
            boolean ofFace = one == UnpatternedRows.class && Modifier.isPublic(method.getModifiers());
            if (!ofFace && names.contains(method.getName())) {
                breach("rule 1: " + method + " bears the name of a public one");
            }
        }
        int fields = 0;
        for (Field field : one.getDeclaredFields()) {
            if (!Modifier.isStatic(field.getModifiers())) {
                fields++;
            } else if (!Modifier.isFinal(field.getModifiers())) {
                breach("rule 5: " + field);
            }
        }
        if (fields > 20) {
            breach("rule 11: " + one + " has " + fields + " fields");
        }
    }

    private static void source(String text) {
        String code = text.replaceAll("(?s)/\\*.*?\\*/", "").replaceAll("//[^\n]*", "").replaceAll("\"[^\"\n]*\"", "\"\"");
        for (String barred : BARRED) {
            Matcher found = Pattern.compile(barred).matcher(code);
            if (found.find()) {
                breach("barred: " + found.group());
            }
        }
        Matcher imports = Pattern.compile("import ([^;]*);").matcher(code);
        while (imports.find()) {
            if (!Set.of("java.util.Arrays", "java.util.NoSuchElementException").contains(imports.group(1))) {
                breach("rule 4: import of " + imports.group(1));
            }
        }
        Matcher thrown = Pattern.compile("throw ([^;]*);").matcher(code);
        while (thrown.find()) {
            if (!thrown.group(1).matches("new (IllegalArgumentException|NoSuchElementException)\\(\"\"\\)")) {
                breach("rule 6: throw " + thrown.group(1));
            }
        }
        for (int at = 0; at < text.length(); at++) {
            char sign = text.charAt(at);
            if (sign > 126 || sign < 32 && sign != '\n') {
                breach("rule 4: the sign " + (int) sign + " at " + at);
            }
        }
        lengths(text.split("\n"));
    }

    /** Methods stand with their brace at 4 or 8 blanks in this file. */
    private static void lengths(String[] lines) {
        for (int from = 0; from < lines.length; from++) {
            Matcher head = Pattern.compile("^( {4}| {8})\\w.*\\).* \\{$").matcher(lines[from]);
            if (head.matches()) {
                int to = from;
                while (to < lines.length && !lines[to].equals(head.group(1) + "}")) {
                    to++;
                }
                if (to - from > 60) {
                    breach("rule 11: " + (to - from) + " lines from " + lines[from].trim());
                }
            }
        }
    }
}
