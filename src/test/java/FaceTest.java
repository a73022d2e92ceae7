import java.lang.reflect.Constructor;
import java.lang.reflect.Field;
import java.lang.reflect.Method;
import java.lang.reflect.Modifier;
import java.nio.file.Files;
import java.nio.file.Path;
import java.util.Arrays;
import java.util.Set;
import java.util.TreeSet;
import java.util.regex.Matcher;
import java.util.regex.Pattern;

/** The public face, and the rules of LANGUAGE.md that a reader of the text can see. */
public final class FaceTest {
    private static final String[] METHODS = {
        "int table(int, int)", "int letters(int)", "int set(int, int, int)", "int hear(int, int)", "int undo()",
        "int redo()", "int told(int, int)", "int type(long, int)", "int read()", "int off(int)", "int nearest(int)",
        "int soft(int, int)", "int gram(int, int)", "long worth(int)", "int undone()", "long fraction(int, int)",
        "int taken()", "int order(int)", "int led()", "int ledAt(int, int, int)", "int ledWord()", "int chosen(int)",
        "int sheet(int, int, int)", "int drop(int)", "int item(int, int, int, int)", "int rows(int, int, int)",
    };
    private static final String[] CONSTANTS = {
        "BAD -1", "NOT -2", "FULL -3", "NONE -4", "NULL -11", "CAST -12", "INDEX -13", "SIZE -14",
    };

    public static void main(String[] args) throws Exception {
        members();
        constants();
        text(Files.readString(Path.of("src/main/java/MixedWords.java")));
        Due.end(FaceTest.class);
    }

    private static void members() {
        Class<?> c = MixedWords.class;
        Due.holds("the class is public and final", Modifier.isPublic(c.getModifiers()) && Modifier.isFinal(c.getModifiers()));
        Set<String> due = new TreeSet<>(Arrays.asList(METHODS));
        Set<String> names = new TreeSet<>();
        for (String m : METHODS) {
            names.add(m.substring(m.indexOf(' ') + 1, m.indexOf('(')));
        }
        Set<String> there = new TreeSet<>();
        for (Method m : c.getDeclaredMethods()) {
            if (Modifier.isPublic(m.getModifiers()) && !Modifier.isStatic(m.getModifiers())) {
                String types = Arrays.toString(m.getParameterTypes());
                there.add(m.getReturnType() + " " + m.getName() + "(" + types.substring(1, types.length() - 1) + ")");
            } else {
                Due.holds(m.getName() + " is private", Modifier.isPrivate(m.getModifiers()));
                Due.holds(m.getName() + " bears no public name", !names.contains(m.getName()));
            }
        }
        Due.holds("the methods are " + there, there.equals(due));
        Constructor<?>[] constructors = c.getDeclaredConstructors();
        Due.holds("one public constructor", constructors.length == 1 && constructors[0].getParameterCount() == 0
            && Modifier.isPublic(constructors[0].getModifiers()));
        for (Class<?> inside : c.getDeclaredClasses()) {
            int m = inside.getModifiers();
            Due.holds(inside + " is static", Modifier.isStatic(m) && !Modifier.isPublic(m) && !Modifier.isProtected(m));
            for (Method method : inside.getDeclaredMethods()) {
                Due.holds(inside + "." + method.getName() + " bears no public name", !names.contains(method.getName()));
            }
            sizes(inside);
        }
        sizes(c);
        Due.holds("at most twelve classes", c.getDeclaredClasses().length < 12);
    }

    /** Rules 5 and 11: no static state, at most seven parameters and twenty fields beside the constants. */
    private static void sizes(Class<?> c) {
        int fields = 0;
        for (Field f : c.getDeclaredFields()) {
            if (Modifier.isStatic(f.getModifiers())) {
                Due.holds(f + " is a constant", Modifier.isFinal(f.getModifiers()) && f.getType().isPrimitive());
            } else {
                fields++;
            }
        }
        Due.holds(c + " has " + fields + " fields", fields <= 20);
        for (Method m : c.getDeclaredMethods()) {
            Due.holds(m + " takes at most seven", m.getParameterCount() <= 7);
        }
    }

    private static void constants() throws Exception {
        Set<String> due = new TreeSet<>(Arrays.asList(CONSTANTS));
        Set<String> there = new TreeSet<>();
        for (Field f : MixedWords.class.getDeclaredFields()) {
            int m = f.getModifiers();
            if (Modifier.isPublic(m)) {
                Due.holds(f + " is static and final", Modifier.isStatic(m) && Modifier.isFinal(m) && f.getType() == int.class);
                there.add(f.getName() + " " + f.getInt(null));
            } else {
                Due.holds(f + " is private", Modifier.isPrivate(m));
                Due.holds(f + " is final if static", !Modifier.isStatic(m) || Modifier.isFinal(m));
            }
        }
        Due.holds("the constants are " + there, there.equals(due));
    }

    private static void text(String source) {
        String code = source.replaceAll("(?s)/\\*.*?\\*/", "").replaceAll("//[^\n]*", "");
        String[] ruledOut = {
            "\\btry\\b", "\\bcatch\\b", "\\bfinally\\b", "\\bthrow\\b", "\\bthrows\\b", "->", "::", "\\bpackage\\b",
            "\\bsynchronized\\b", "\\bassert\\b", "Exact\\b", "\\bdouble\\b", "\\bfloat\\b", "\\bSystem\\.(?!arraycopy)",
            "\\bMath\\.(?!abs|max|min|floorDiv|floorMod)", "\\bprotected\\b", "\\bstatic \\{", "\\bnative\\b",
            "\\b(Integer|Long)\\.(?!bitCount\\()", "\\bArrays\\.(?!fill\\()", "\\binstanceof\\b",
        };
        for (String rule : ruledOut) {
            Due.holds("no " + rule, !Pattern.compile(rule).matcher(code).find());
        }
        Matcher imports = Pattern.compile("(?m)^import (.*);$").matcher(code);
        while (imports.find()) {
            Due.holds("import of " + imports.group(1), imports.group(1).equals("java.util.Arrays"));
        }
        methodLengths(code);
        // All rows are made with the object: a call makes none.
        Matcher made = Pattern.compile("(?m)^.*\\bnew\\b.*$").matcher(code);
        while (made.find()) {
            String line = made.group().trim();
            boolean isField = line.matches("(private )?final \\w+(\\[\\])+ \\w+ = new .*;");
            boolean isInConstructor = line.matches("\\w+(\\[i\\])? = new \\w+(\\(\\w*\\)|\\[SHEETS\\]);");
            Due.holds("made with the object: " + line, isField || isInConstructor);
        }
    }

    /** Rule 11: a method's text runs from its head to the brace that stands as far in as the head. */
    private static void methodLengths(String code) {
        Matcher methods = Pattern.compile("(?m)^( +)[\\w\\[\\] ]+\\([^;{]*\\) \\{\n(?s:(.*?))^\\1\\}$").matcher(code);
        int seen = 0;
        while (methods.find()) {
            long lines = methods.group(2).lines().count();
            Due.holds("short: " + methods.group().lines().findFirst().orElse("").trim(), lines <= 60);
            seen++;
        }
        Due.holds("methods were seen: " + seen, seen > 60);
    }
}
