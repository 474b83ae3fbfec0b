import java.lang.reflect.Constructor;
import java.lang.reflect.Field;
import java.lang.reflect.Method;
import java.lang.reflect.Modifier;
import java.nio.file.Files;
import java.nio.file.Path;
import java.util.Arrays;
import java.util.HashSet;
import java.util.List;
import java.util.Set;
import java.util.TreeSet;
import java.util.regex.Matcher;
import java.util.regex.Pattern;

/** Looks at the class by the rules of LANGUAGE.md, as far as they can be seen from its text and its face. */
public final class RulesTest {
    private static final String FACE = "feed int int int int int;end int;text int int;fault int;land int int;"
        + "deed int int int;stop int int;state int int int int;walk int int int;endOf int int;come int int int;"
        + "period int int boolean;set int int int int;lot int int int boolean;mean int int boolean;trees int;"
        + "game int int int boolean;fact int int int;fits int int int;drawn int int int int;far int int int;"
        + "reach int int int;classes int int;led int int int;cover int int int;share int int int int;"
        + "longest int int boolean boolean;back int int;keys int int boolean;after int int int;"
        + "odds int int int int boolean;least int int boolean;count int;image int;again int";

    public static void main(String[] args) throws Exception {
        face();
        statics(TurnedPosts.class);
        for (Class<?> c : TurnedPosts.class.getDeclaredClasses()) {
            inside(c);
            statics(c);
        }
        text(Files.readString(Path.of("src/main/java/TurnedPosts.java")));
        Check.done("RulesTest");
    }

    private static void face() {
        Set<String> got = new TreeSet<>();
        Set<String> others = new HashSet<>();
        for (Method m : TurnedPosts.class.getDeclaredMethods()) {
            StringBuilder s = new StringBuilder(m.getName());
            for (Class<?> p : m.getParameterTypes()) {
                s.append(' ').append(p.getSimpleName());
            }
            if (Modifier.isPublic(m.getModifiers())) {
                boolean isQuestion = Set.of("image", "again").contains(m.getName());
                Check.due("answer of " + m, m.getReturnType() == (isQuestion ? boolean.class : int.class), true);
                Check.due("static " + m, Modifier.isStatic(m.getModifiers()), false);
                got.add(s.toString());
            } else {
                Check.due("private " + m, Modifier.isPrivate(m.getModifiers()), true);
                others.add(m.getName());
            }
        }
        Set<String> wanted = new TreeSet<>(Arrays.asList(FACE.split(";")));
        Check.due("face " + got, got.equals(wanted), true);
        for (String method : wanted) {
            Check.due("two of one name " + method, others.contains(method.split(" ")[0]), false);
        }
        for (Field f : TurnedPosts.class.getDeclaredFields()) {
            boolean isNone = f.getName().equals("NONE");
            Check.due("field " + f, isNone ? Modifier.isPublic(f.getModifiers()) : Modifier.isPrivate(f.getModifiers()),
                true);
        }
        Constructor<?>[] constructors = TurnedPosts.class.getDeclaredConstructors();
        Check.due("constructors", constructors.length, 1);
        Check.due("public and final", TurnedPosts.class.getModifiers(), Modifier.PUBLIC | Modifier.FINAL);
        Check.due("classes", TurnedPosts.class.getDeclaredClasses().length <= 12, true);
    }

    private static void inside(Class<?> c) {
        int m = c.getModifiers();
        Check.due("static " + c, Modifier.isStatic(m), true);
        Check.due("not public " + c, Modifier.isPublic(m) || Modifier.isProtected(m), false);
        Check.due("no classes in " + c, c.getDeclaredClasses().length, 0);
        Set<String> face = new HashSet<>();
        for (String method : FACE.split(";")) {
            face.add(method.split(" ")[0]);
        }
        for (Method method : c.getDeclaredMethods()) {
            Check.due("name of the face " + method, face.contains(method.getName()), false);
        }
    }

    private static void statics(Class<?> c) {
        int fields = 0;
        for (Field f : c.getDeclaredFields()) {
            if (Modifier.isStatic(f.getModifiers())) {
                Check.due("final " + f, Modifier.isFinal(f.getModifiers()), true);
            } else {
                fields++;
            }
        }
        Check.due("fields of " + c, fields <= 20, true);
        for (Method m : c.getDeclaredMethods()) {
            Check.due("parameters of " + m, m.getParameterCount() <= 7, true);
            Check.due("not made by the compiler " + m, m.isSynthetic(), false);
        }
    }

    private static void text(String source) {
        String code = source.replaceAll("(?s)/\\*.*?\\*/", "").replaceAll("//[^\n]*", "");
        for (int i = 0; i < source.length(); i++) {
            char sign = source.charAt(i);
            Check.due("sign " + (int) sign, sign == 10 || (sign >= 32 && sign < 127), true);
        }
        List<String> never = List.of("throw", "throws", "try", "catch", "finally", "synchronized", "assert", "import",
            "package", "native", "volatile", "transient", "equals", "hashCode", "toString", "System", "Object", "float",
            "double", "protected", "instanceof");
        for (String word : never) {
            Check.due("word " + word, Pattern.compile("\\b" + word + "\\b").matcher(code).find(), false);
        }
        for (String sign : List.of("->", "::", "@", "\" +", "+ \"")) {
            Check.due("sign " + sign, code.contains(sign), false);
        }
        Matcher library = Pattern.compile("\\b(Math|Integer|Long|Arrays|List|ArrayList)\\.(\\w+)").matcher(code);
        while (library.find()) {
            Check.due("library " + library.group(), Set.of("max", "min", "bitCount").contains(library.group(2)), true);
        }
        lengths(code);
    }

    /** No method has more than sixty lines. */
    private static void lengths(String code) {
        int start = -1;
        String indent = "";
        String[] lines = code.split("\n");
        for (int i = 0; i < lines.length; i++) {
            String trimmed = lines[i].trim();
            if (start < 0 && trimmed.endsWith(") {") && lines[i].matches(" {4,8}[A-Za-z].*")
                && !trimmed.matches("(if|for|while|switch|\\}).*")) {
                start = i;
                indent = lines[i].substring(0, lines[i].length() - trimmed.length());
            } else if (start >= 0 && lines[i].equals(indent + "}")) {
                Check.due("length of " + lines[start].trim(), i - start + 1 <= 60, true);
                start = -1;
            }
        }
        Check.due("all methods end", start, -1);
    }
}
