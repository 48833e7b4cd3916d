import java.io.IOException;
import java.lang.reflect.Constructor;
import java.lang.reflect.Field;
import java.lang.reflect.Method;
import java.lang.reflect.Modifier;
import java.nio.file.Files;
import java.nio.file.Path;
import java.util.ArrayList;
import java.util.Collections;
import java.util.List;
import java.util.Set;
import java.util.TreeSet;
import java.util.regex.Matcher;
import java.util.regex.Pattern;

/** The class's face is the document's, and its source keeps to those rules of LANGUAGE.md that can be seen from outside. */
public final class LanguageTest {
    private static final String FACE = "back():int best(int,int,int):int cell(int,int,int):int chance(int,int,int,int):long "
        + "copy(int,int,int,int,int):int count(int):int drawn(int,int):int feed(int):int film(int,int,int):int force(int):int "
        + "fort(int,int,int):int forts(int,int,int,int):int game(int,int):int image():int keeps(int,int):int "
        + "matters(int,int,int):int plan(int,int):int run(int,int):int set(int,int,int):int sheet(int,int,int):int "
        + "spade(int):int taken(int,int):int tells(int,int,int):int text():int told(int,int):int wave():int wish(int,int,int):int";
    private static final String[] REFUSED_WORDS = {"throw", "throws", "try", "catch", "finally", "synchronized", "assert",
        "import", "package", "Exception", "->", "::", "new Object", "System.out", "var", "protected", "Exact",
        "hashCode", "toString", "Random", "Thread", "float", "double"};

    private static int wrong;

    public static void main(String[] args) throws IOException {
        face();
        nested(Sandcastles.class);
        source(withoutComments(Files.readString(Path.of("src/main/java/Sandcastles.java"))));
        System.out.println("LanguageTest: " + wrong + " wrong");
        if (wrong != 0) {
            System.exit(1);
        }
    }

    private static void check(boolean holds, String what) {
        if (!holds) {
            wrong++;
            System.out.println("not as LANGUAGE.md has it: " + what);
        }
    }

    private static void face() {
        Class<?> c = Sandcastles.class;
        check(Modifier.isPublic(c.getModifiers()) && Modifier.isFinal(c.getModifiers()), "public and final");
        List<String> seen = new ArrayList<>();
        Set<String> open = new TreeSet<>();
        for (Method m : c.getDeclaredMethods()) {
            if (Modifier.isPublic(m.getModifiers())) {
                seen.add(signature(m));
                open.add(m.getName());
            } else {
                check(Modifier.isPrivate(m.getModifiers()), "private: " + m);
            }
        }
        Collections.sort(seen);
        check(String.join(" ", seen).equals(FACE), "the face: " + String.join(" ", seen));
        for (Constructor<?> k : c.getDeclaredConstructors()) {
            check(Modifier.isPublic(k.getModifiers()) && k.getParameterCount() == 0, "constructor " + k);
        }
        Set<String> constants = new TreeSet<>();
        for (Field f : c.getDeclaredFields()) {
            if (Modifier.isPublic(f.getModifiers())) {
                constants.add(f.getName());
            } else {
                check(Modifier.isPrivate(f.getModifiers()), "private: " + f);
            }
        }
        check(constants.toString().equals("[BAD, FULL, NO, NONE, STATE]"), "constants " + constants);
        for (Class<?> inner : c.getDeclaredClasses()) {
            for (Method m : inner.getDeclaredMethods()) {
                check(!open.contains(m.getName()), "a name of the face inside: " + m);
            }
        }
        for (Method m : c.getDeclaredMethods()) {
            check(Modifier.isPublic(m.getModifiers()) || !open.contains(m.getName()), "a name of the face: " + m);
        }
    }

    private static String signature(Method m) {
        List<String> types = new ArrayList<>();
        for (Class<?> p : m.getParameterTypes()) {
            types.add(p.getName());
        }
        return m.getName() + "(" + String.join(",", types) + "):" + m.getReturnType().getName();
    }

    private static void nested(Class<?> c) {
        check(c.getDeclaredClasses().length <= 11, "some twelve classes");
        int fields = 0;
        for (Field f : c.getDeclaredFields()) {
            if (Modifier.isStatic(f.getModifiers())) {
                check(Modifier.isFinal(f.getModifiers()), "static and final: " + f);
            } else {
                fields++;
            }
        }
        check(fields <= 20, "some twenty fields: " + c);
        for (Method m : c.getDeclaredMethods()) {
            check(m.getParameterCount() <= 7, "seven parameters: " + m);
        }
        for (Class<?> inner : c.getDeclaredClasses()) {
            check(Modifier.isStatic(inner.getModifiers()), "static: " + inner);
            nested(inner);
        }
    }

    private static void source(String text) {
        for (String word : REFUSED_WORDS) {
            boolean letters = Character.isLetter(word.charAt(0));
            Matcher m = Pattern.compile(letters ? "\\b" + word + "\\b" : Pattern.quote(word)).matcher(text);
            check(!m.find(), "the word " + word);
        }
        Matcher used = Pattern.compile("\\b(System|Math|Integer|Long|Arrays|List|ArrayList)\\.(\\w+)").matcher(text);
        Set<String> allowed = Set.of("System.arraycopy", "Math.max", "Math.min", "Integer.bitCount");
        while (used.find()) {
            check(allowed.contains(used.group()), "the library: " + used.group());
        }
        for (int i = 0; i < text.length(); i++) {
            check(text.charAt(i) < 128, "a sign above 127 at " + i);
        }
        int length = 0;
        String name = "";
        for (String line : text.split("\n")) {
            if (line.matches("( {4}| {8})\\w.*\\) \\{")) {
                name = line.trim();
                length = 0;
            }
            length++;
            if (line.matches("( {4}| {8})\\}")) {
                check(length <= 60, "a long method: " + name);
                length = 0;
            }
        }
    }

    private static String withoutComments(String text) {
        return text.replaceAll("(?s)/\\*.*?\\*/", "").replaceAll("//[^\n]*", "");
    }
}
