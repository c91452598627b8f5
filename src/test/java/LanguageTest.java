import java.io.IOException;
import java.lang.reflect.Constructor;
import java.lang.reflect.Field;
import java.lang.reflect.Method;
import java.lang.reflect.Modifier;
import java.nio.file.Files;
import java.nio.file.Path;
import java.util.Arrays;
import java.util.HashSet;
import java.util.List;
import java.util.Set;
import java.util.TreeSet;
import java.util.regex.Matcher;
import java.util.regex.Pattern;

/** The document's public face, and those rules of LANGUAGE.md that can be read off the file. */
public final class LanguageTest {
    private static final Checks CHECKS = new Checks();
    private static final String[] FACE = {
        "int empty(int,int)", "int hold(int,int)", "int slot(int,int,int)", "int apart(int,int,int)",
        "int item(int,int,int)", "int row(int,int)", "int tank(int,int)", "int person(int)", "int seat(int,int)",
        "int fuel(int,int)", "int point(int,int,int,int)", "int wipe(int)", "int fits(int,int,int)",
        "int load(int,int,int)", "int unload(int)", "int where(int)", "int in(int,int)", "int about(int,int)",
        "int weight(int)", "long moment(int)", "long burnt(int,int)", "int within(int)", "int safe(int)",
        "int wrong(int)", "int pushed(int)", "int arrive(int)", "int loadAll(int)", "int better(int)",
        "int best(int)", "int late(int,int)", "int count(int)"};

    public static void main(String[] args) throws IOException {
        face();
        insideClasses();
        words(Files.readString(Path.of("src/main/java/TrimSheet.java")));
        CHECKS.end("LanguageTest");
    }

    private static void face() {
        int kind = TrimSheet.class.getModifiers();
        CHECKS.holds("rule 1: public and final", Modifier.isPublic(kind) && Modifier.isFinal(kind));
        Set<String> methods = new TreeSet<>();
        for (Method m : TrimSheet.class.getDeclaredMethods()) {
            if (!Modifier.isPrivate(m.getModifiers())) {
                CHECKS.holds("the face: public, of an object " + m,
                        Modifier.isPublic(m.getModifiers()) && !Modifier.isStatic(m.getModifiers()));
                StringBuilder told = new StringBuilder(m.getReturnType() + " " + m.getName() + "(");
                for (Class<?> type : m.getParameterTypes()) {
                    told.append(told.charAt(told.length() - 1) == '(' ? "" : ",").append(type);
                }
                methods.add(told.append(")").toString());
            }
        }
        CHECKS.holds("rule 1: the methods of the face, not " + methods, methods.equals(new TreeSet<>(List.of(FACE))));
        Set<String> fields = new TreeSet<>();
        for (Field f : TrimSheet.class.getDeclaredFields()) {
            if (!Modifier.isPrivate(f.getModifiers())) {
                CHECKS.due("the face: public, static and final " + f, f.getModifiers(),
                        Modifier.PUBLIC | Modifier.STATIC | Modifier.FINAL);
                fields.add(f.getType() + " " + f.getName());
            }
        }
        CHECKS.holds("rule 1: the constants of the face, not " + fields,
                fields.equals(new TreeSet<>(List.of("int NONE", "int BAD", "int STATE", "int FULL", "long NO"))));
        long[] constants = {TrimSheet.NONE, TrimSheet.BAD, TrimSheet.STATE, TrimSheet.FULL, TrimSheet.NO};
        CHECKS.holds("the face: the constants' values, not " + Arrays.toString(constants),
                Arrays.equals(constants, new long[] {-1, -2, -3, -4, Long.MIN_VALUE}));
        Constructor<?>[] made = TrimSheet.class.getDeclaredConstructors();
        CHECKS.holds("rule 1: one public constructor", made.length == 1 && Modifier.isPublic(made[0].getModifiers())
                && made[0].getParameterCount() == 0);
    }

    private static void insideClasses() {
        Set<String> faceNames = new HashSet<>();
        for (String method : FACE) {
            faceNames.add(method.substring(method.indexOf(' ') + 1, method.indexOf('(')));
        }
        Class<?>[] inside = TrimSheet.class.getDeclaredClasses();
        CHECKS.holds("rule 11: some twelve classes", inside.length <= 11);
        for (Class<?> c : inside) {
            CHECKS.holds("rule 2: static " + c, Modifier.isStatic(c.getModifiers()));
            CHECKS.holds("rule 11: some twenty fields " + c, c.getDeclaredFields().length <= 20);
            for (Method m : c.getDeclaredMethods()) {
                CHECKS.holds("rule 1: no name of the face " + m, !faceNames.contains(m.getName()));
                CHECKS.holds("rule 11: parameters " + m, m.getParameterCount() <= 7);
            }
        }
        for (Method m : TrimSheet.class.getDeclaredMethods()) {
            CHECKS.holds("rule 1: no private one of a public name " + m,
                    !Modifier.isPrivate(m.getModifiers()) || !faceNames.contains(m.getName()));
        }
    }

    private static void words(String text) {
        String code = text.replaceAll("(?s)/\\*.*?\\*/", "").replaceAll("//[^\n]*", "");
        for (String word : List.of("throw", "throws", "try", "catch", "synchronized", "assert", "double", "float",
                "System", "Random", "Thread", "package", "Object", "equals", "hashCode", "toString")) {
            boolean isThere = Pattern.compile("\\b" + word + "\\b").matcher(code).find();
            CHECKS.holds("rules 4, 6, 13: without " + word, !isThere);
        }
        CHECKS.holds("rule 2: no lambda", !code.contains("->") && !code.contains("::"));
        CHECKS.holds("rule 10: no text joined", !code.contains("\""));
        Matcher imports = Pattern.compile("import ([^;]*);").matcher(code);
        while (imports.find()) {
            CHECKS.holds("rule 4: import " + imports.group(1), imports.group(1).equals("java.util.Arrays"));
        }
        Matcher library = Pattern.compile("\\b(Math|Integer|Long|Arrays)\\.(\\w+)").matcher(code);
        List<String> allowed = List.of("abs", "max", "min", "bitCount", "fill", "MIN_VALUE");
        while (library.find()) {
            CHECKS.holds("rule 4: " + library.group(), allowed.contains(library.group(2)));
        }
        for (String line : code.split("\n")) {
            boolean isMadeOnce = !line.contains("new ") || line.matches("\\s*(private )?final .* = new .*;");
            CHECKS.holds("rule 12: rows are made with their object: " + line.trim(), isMadeOnce);
        }
        shortMethods(code.split("\n"));
    }

    /** A method begins where a line ends in ") {" behind 4 or 8 spaces, and ends at the same depth. */
    private static void shortMethods(String[] lines) {
        for (int from = 0; from < lines.length; from++) {
            Matcher start = Pattern.compile("^( {4}| {8})[a-zA-Z].*\\) \\{$").matcher(lines[from]);
            if (start.find()) {
                String end = start.group(1) + "}";
                int to = from;
                while (to < lines.length && !lines[to].equals(end)) {
                    to++;
                }
                CHECKS.holds("rule 11: short " + lines[from].trim() + Arrays.asList(from, to), to - from <= 60);
            }
        }
    }
}
