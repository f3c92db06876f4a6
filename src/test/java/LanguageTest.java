import java.lang.reflect.Constructor;
import java.lang.reflect.Field;
import java.lang.reflect.Method;
import java.lang.reflect.Modifier;
import java.nio.file.Files;
import java.nio.file.Path;
import java.util.ArrayList;
import java.util.List;
import java.util.Set;
import java.util.TreeSet;
import java.util.regex.Matcher;
import java.util.regex.Pattern;

/** The face of the document, and those rules of LANGUAGE.md that a look at the source can tell. */
public final class LanguageTest {
    private static final String FACE = "int status();long top();long bottom();boolean tray(int,int,int);"
        + "boolean write(int,int,long);long read(int,int);boolean pour(int,int,int,int,int);int feed(int,int,int,int,int);"
        + "int town(int);int days(int);int fault(int);int told(int);int walker(int,int);int leg(int,int);int place(int,int);"
        + "int apart(int,int);int joined(int,int);int pace(int,int,int,int,int);boolean tell(int,int,int);int strike(int);"
        + "int restore(int);int believe(int,int);int settle();int go(int);boolean rule(int);int out();int outSet();"
        + "int fits(int);int firstFault(int,int);boolean oddsThat(int,int,int);int ask(int,int);int way(int,int);"
        + "int wayAt(int,int,int);boolean area(int,int);int game(int);int moveOf(int);boolean misread(int,int);"
        + "boolean share(int);int copyPlaces(int);int live(int);int lived(int);boolean mean(int,int);int mark();int undo();";

    public static void main(String[] args) throws Exception {
        face();
        source(Files.readString(Path.of("src/main/java/PacedMap.java")));
        Due.end("LanguageTest");
    }

    private static void face() {
        Set<String> want = new TreeSet<>(List.of(FACE.split(";")));
        Set<String> got = new TreeSet<>();
        Set<String> names = new TreeSet<>();
        for (Method m : PacedMap.class.getDeclaredMethods()) {
            List<String> types = new ArrayList<>();
            for (Class<?> c : m.getParameterTypes()) {
                types.add(c.getName());
            }
            if (Modifier.isPrivate(m.getModifiers())) {
                continue;
            }
            Due.is(m.getName() + " is public", Modifier.isPublic(m.getModifiers()), true);
            names.add(m.getName());
            got.add(m.getReturnType().getName() + " " + m.getName() + "(" + String.join(",", types) + ")");
        }
        Due.is("the face is " + want + " and not " + got, want.equals(got), true);
        for (Class<?> c : PacedMap.class.getDeclaredClasses()) {
            Due.is(c + " is static", Modifier.isStatic(c.getModifiers()), true);
            for (Method m : c.getDeclaredMethods()) {
                Due.is(c + " has a name of the face: " + m.getName(), names.contains(m.getName()), false);
            }
            Due.is(c + " has some twenty fields", plainFields(c) <= 20, true);
        }
        for (Method m : PacedMap.class.getDeclaredMethods()) {
            if (Modifier.isPrivate(m.getModifiers())) {
                Due.is("a private method has a name of the face: " + m.getName(), names.contains(m.getName()), false);
            }
        }
        Due.is("some twelve classes", PacedMap.class.getDeclaredClasses().length <= 12, true);
        Due.is("some twenty fields", plainFields(PacedMap.class) <= 20, true);
        Due.is("one constructor", PacedMap.class.getDeclaredConstructors().length, 1);
        for (Constructor<?> c : PacedMap.class.getDeclaredConstructors()) {
            Due.is("it is public", Modifier.isPublic(c.getModifiers()) && c.getParameterCount() == 0, true);
        }
        for (Field f : PacedMap.class.getDeclaredFields()) {
            Due.is(f + " is private, or NONE", Modifier.isPrivate(f.getModifiers()) || f.getName().equals("NONE"), true);
        }
        Due.is("the class is public and final",
            Modifier.isPublic(PacedMap.class.getModifiers()) && Modifier.isFinal(PacedMap.class.getModifiers()), true);
        Due.is("NONE", PacedMap.NONE, -1);
    }

    private static int plainFields(Class<?> c) {
        int many = 0;
        for (Field f : c.getDeclaredFields()) {
            many += Modifier.isStatic(f.getModifiers()) ? 0 : 1;
            if (Modifier.isStatic(f.getModifiers())) {
                Due.is(f + " is final", Modifier.isFinal(f.getModifiers()), true);
            }
        }
        return many;
    }

    private static void source(String whole) {
        String code = whole.replaceAll("(?s)/\\*.*?\\*/", "").replaceAll("//[^\n]*", "").replaceAll("\"[^\"\n]*\"", "\"\"");
        String[] banned = {
            "\\bthrow\\b", "\\bthrows\\b", "\\btry\\b", "\\bcatch\\b", "\\bsynchronized\\b", "\\bassert\\b", "->", "::",
            "\\bpackage\\b", "\\bvar\\b", "\\bnative\\b", "\\bvolatile\\b", "\\bObject\\b", "\\bException\\b", "Exact\\b",
            "\\bSystem\\.(?!arraycopy)", "\\bArrays\\.(?!fill|copyOf)", "\\bMath\\.(?!abs|max|min)", "\\bInteger\\.(?!bitCount)",
            "\"\\s*\\+", "\\+\\s*\"", "\\bstatic\\s*\\{", "@"
        };
        for (String b : banned) {
            Matcher m = Pattern.compile(b).matcher(code);
            Due.is("the source has " + b, m.find(), false);
        }
        Matcher imports = Pattern.compile("import ([^;]*);").matcher(code);
        while (imports.find()) {
            Due.is("import " + imports.group(1), imports.group(1).equals("java.util.Arrays"), true);
        }
        for (int i = 0; i < whole.length(); i++) {
            if (whole.charAt(i) > 126) {
                Due.is("a sign of the source", whole.charAt(i), 126);
            }
        }
        methodsAreShort(whole);
    }

    /** A method ends with the first brace that is indented as its head is. */
    private static void methodsAreShort(String whole) {
        String[] lines = whole.split("\n");
        for (int i = 0; i < lines.length; i++) {
            Matcher head = Pattern.compile("^( {4}| {8})(?!private static final class)[a-zA-Z].*\\) \\{$").matcher(lines[i]);
            if (head.matches()) {
                int end = i;
                while (end < lines.length - 1 && !lines[end].equals(head.group(1) + "}")) {
                    end++;
                }
                Due.is(lines[i].trim() + " has " + (end - i + 1) + " lines", end - i + 1 <= 60, true);
                String inner = lines[i].substring(lines[i].indexOf('('));
                Due.is(lines[i].trim() + " has few parameters", inner.split(",").length <= 7, true);
            }
        }
    }
}
