import java.io.IOException;
import java.lang.reflect.Constructor;
import java.lang.reflect.Field;
import java.lang.reflect.Method;
import java.lang.reflect.Modifier;
import java.nio.file.Files;
import java.nio.file.Path;
import java.util.Arrays;
import java.util.List;
import java.util.Set;
import java.util.TreeSet;
import java.util.regex.Matcher;
import java.util.regex.Pattern;

/** The face of the document, and what of LANGUAGE.md can be seen from outside or by its words. */
public final class RulesTest {
    private static final Set<String> FACE = new TreeSet<>(List.of(
        "boolean book(int,int)", "boolean page(int,int,int)", "int feed(long,long,long)", "int draw(int)",
        "int leaflet(int,int,int)", "int told(int,int)", "int comes(int,int,int,int)", "int slip(int,int,int,int)",
        "int forged(int,int,int,int,int)", "int nameless(int,int,int)", "int paper(int,int,int)",
        "boolean away(int,int)", "int peels(int,int,int,int)", "int solves(int,int,int,int)",
        "int read(int,int,int,int)", "int soon(int,int,int,int)", "int slipped(int,int,int,int)",
        "int right(int,int,int,int)", "int doubles(int,int,int)", "int guard(int,int,int,int)",
        "int tocome(int,int,int)", "int chances(int,int,int,int)", "int enough(int,int,int,boolean)",
        "long average(int,int,int,int)", "int degree(int,int,int,int)", "int apart(int,int)",
        "boolean quarter(int,int,int)", "int scatter(int,int,int)", "int needs(int,int)", "int town(int,int)",
        "int swap(int,int,int)", "boolean mark(int,boolean)", "int count(int)"));
    private static final Pattern FORBIDDEN = Pattern.compile(
        "\\b(try|catch|finally|assert|synchronized|extends|implements|protected|String\\.format|instanceof|Random|System\\.(out|err|in|nano|current)"
        + "|Integer\\.(?!bitCount)\\w+|Long\\.(?!bitCount)\\w+|Math\\.(?!min|max|abs)\\w+|\\w+Exact)\\b|->|::");
    private static final int LONGEST_METHOD = 60;

    private static int wrong = 0;

    private static void wrong(String what) {
        wrong++;
        System.out.println(what);
    }

    public static void main(String[] args) throws IOException, NoSuchMethodException {
        Class<?> program = ThousandLeaflets.class;
        face(program);
        Set<String> names = new TreeSet<>();
        for (String call : FACE) {
            names.add(call.substring(call.indexOf(' ') + 1, call.indexOf('(')));
        }
        insides(program, names);
        Class<?>[] inner = program.getDeclaredClasses();
        if (inner.length > 12) {
            wrong("there are " + inner.length + " classes inside");
        }
        for (Class<?> c : inner) {
            if (!Modifier.isStatic(c.getModifiers()) || Modifier.isPublic(c.getModifiers())) {
                wrong(c + " is not static, or is public");
            }
            insides(c, names);
        }
        text(Files.readString(Path.of("src/main/java/ThousandLeaflets.java")));
        System.out.println(wrong == 0 ? "all rules are kept" : wrong + " rules are broken");
        if (wrong != 0) {
            System.exit(1);
        }
    }

    private static void face(Class<?> program) throws NoSuchMethodException {
        Set<String> found = new TreeSet<>();
        for (Method m : program.getDeclaredMethods()) {
            if (!Modifier.isPrivate(m.getModifiers())) {
                StringBuilder call = new StringBuilder(m.getReturnType() + " " + m.getName() + "(");
                for (Class<?> p : m.getParameterTypes()) {
                    call.append(call.charAt(call.length() - 1) == '(' ? "" : ",").append(p);
                }
                found.add(call.append(")").toString());
                if (!Modifier.isPublic(m.getModifiers())) {
                    wrong(m + " is neither public nor private");
                }
            }
        }
        if (!found.equals(FACE)) {
            wrong("the face is " + found);
        }
        for (Field f : program.getDeclaredFields()) {
            if (!Modifier.isPrivate(f.getModifiers()) && !f.getName().equals("NONE")) {
                wrong(f + " is not private");
            }
        }
        if (ThousandLeaflets.NONE != -1 || !Modifier.isFinal(program.getModifiers())) {
            wrong("NONE is not -1, or the class is not final");
        }
        if (program.getDeclaredConstructors().length != 1 || program.getConstructors().length != 1) {
            wrong("there is not just one constructor");
        }
        Class<?>[] thrown = program.getMethod("paper", int.class, int.class, int.class).getExceptionTypes();
        if (!Arrays.equals(thrown, new Class<?>[] {java.util.NoSuchElementException.class})) {
            wrong("paper does not tell what it throws");
        }
    }

    private static void insides(Class<?> c, Set<String> publicNames) {
        int fields = 0;
        for (Field f : c.getDeclaredFields()) {
            fields += Modifier.isStatic(f.getModifiers()) ? 0 : 1;
            if (Modifier.isStatic(f.getModifiers()) && !Modifier.isFinal(f.getModifiers())) {
                wrong(f + " is static and not final");
            }
        }
        if (fields > 20) {
            wrong(c + " has " + fields + " fields");
        }
        for (Method m : c.getDeclaredMethods()) {
            if (m.getParameterCount() > 7) {
                wrong(m + " has too many parameters");
            }
            if (!Modifier.isPublic(m.getModifiers()) && publicNames.contains(m.getName())) {
                wrong(m + " bears the name of a public one");
            }
        }
        for (Constructor<?> m : c.getDeclaredConstructors()) {
            if (m.getParameterCount() > 7) {
                wrong(m + " has too many parameters");
            }
        }
    }

    private static void text(String source) {
        Matcher comments = Pattern.compile("/\\*.*?\\*/|//[^\n]*", Pattern.DOTALL).matcher(source);
        String code = comments.replaceAll(m -> m.group().replaceAll("[^\n]", ""));
        Matcher m = FORBIDDEN.matcher(code);
        while (m.find()) {
            wrong("line " + code.substring(0, m.start()).split("\n", -1).length + " has " + m.group());
        }
        m = Pattern.compile("(?m)^import (.*);$").matcher(code);
        while (m.find()) {
            if (!m.group(1).equals("java.util.NoSuchElementException")) {
                wrong("it imports " + m.group(1));
            }
        }
        for (char sign : source.toCharArray()) {
            if (sign > 126) {
                wrong("it has the sign " + (int) sign);
            }
        }
        String[] lines = code.split("\n", -1);
        for (int i = 0; i < lines.length; i++) {
            Matcher head = Pattern.compile("^( {4}| {8})(?! ).*\\) (throws \\w+ )?\\{$").matcher(lines[i]);
            if (head.find()) {
                int end = i;
                while (end < lines.length && !lines[end].equals(head.group(1) + "}")) {
                    end++;
                }
                if (end - i + 1 > LONGEST_METHOD) {
                    wrong("line " + (i + 1) + ": a method of " + (end - i + 1) + " lines");
                }
            }
        }
    }
}
