import java.io.IOException;
import java.lang.reflect.Constructor;
import java.lang.reflect.Field;
import java.lang.reflect.Method;
import java.lang.reflect.Modifier;
import java.nio.file.Files;
import java.nio.file.Path;
import java.util.Arrays;
import java.util.HashSet;
import java.util.Set;
import java.util.TreeSet;
import java.util.regex.Matcher;
import java.util.regex.Pattern;

/** The public face to the letter, and those rules of LANGUAGE.md that the source shows. */
public final class FaceTest {
    private static final Due DUE = new Due("FaceTest");
    private static final String[] FACE = {"write 1", "wipe 0", "fault 0", "lay 0", "high 1", "matter 2",
        "maid 2", "stroke 2", "pass 1", "pardon 1", "undo 0", "behind 2", "hollowed 1", "smooth 3",
        "round 3", "chairs 1", "pardons 2", "see 2", "forget 0", "mind 2", "deep 3", "slip 5",
        "evening 3", "keep 0", "back 0", "count 1"};
    private static final String[] FORBIDDEN = {"catch", "try", "throw", "throws", "finally",
        "synchronized", "assert", "var", "float", "double", "instanceof", "volatile", "native",
        "while", "do", "random", "System.in", "System.out", "nanoTime", "currentTimeMillis"};

    public static void main(String[] args) throws IOException {
        DUE.due("BAD", RemorseWall.BAD, -1);
        DUE.due("NO", RemorseWall.NO, -2);
        DUE.due("FULL", RemorseWall.FULL, -3);
        DUE.due("NONE", RemorseWall.NONE, -4);
        members();
        source(Files.readString(Path.of("src/main/java/RemorseWall.java")));
        DUE.end();
    }

    private static void members() {
        DUE.holds("the class is public and final",
                Modifier.isPublic(RemorseWall.class.getModifiers())
                && Modifier.isFinal(RemorseWall.class.getModifiers()));
        Set<String> open = new TreeSet<>();
        Set<String> hidden = new HashSet<>();
        for (Method m : RemorseWall.class.getDeclaredMethods()) {
            if (Modifier.isPrivate(m.getModifiers())) {
                hidden.add(m.getName());
            } else if (!m.isSynthetic()) {
                open.add(m.getName() + " " + m.getParameterCount());
                DUE.holds(m + " is public, of int, of the object", Modifier.isPublic(m.getModifiers())
                        && !Modifier.isStatic(m.getModifiers()) && m.getReturnType() == int.class
                        && Arrays.stream(m.getParameterTypes()).allMatch(t -> t == int.class));
            }
        }
        DUE.holds("the methods are those of the face: " + open, open.equals(new TreeSet<>(Arrays.asList(FACE))));
        for (String name : FACE) {
            DUE.holds("nothing private is called as " + name, !hidden.contains(name.split(" ")[0]));
        }
        Set<String> fields = new TreeSet<>();
        for (Field f : RemorseWall.class.getDeclaredFields()) {
            if (!Modifier.isPrivate(f.getModifiers())) {
                fields.add(f.getName());
            }
            DUE.holds(f.getName() + ", if static, is final",
                    !Modifier.isStatic(f.getModifiers()) || Modifier.isFinal(f.getModifiers()));
        }
        DUE.holds("the constants are those of the face: " + fields,
                fields.equals(new TreeSet<>(Arrays.asList("BAD", "NO", "FULL", "NONE"))));
        Constructor<?>[] made = RemorseWall.class.getDeclaredConstructors();
        DUE.holds("one public constructor", made.length == 1 && Modifier.isPublic(made[0].getModifiers())
                && made[0].getParameterCount() == 0);
        for (Class<?> inside : RemorseWall.class.getDeclaredClasses()) {
            DUE.holds(inside + " is private and static", Modifier.isPrivate(inside.getModifiers())
                    && Modifier.isStatic(inside.getModifiers()));
        }
        DUE.holds("some twelve classes", RemorseWall.class.getDeclaredClasses().length <= 12);
    }

    private static void source(String text) {
        String code = text.replaceAll("(?s)/\\*.*?\\*/", "").replaceAll("//[^\n]*", "");
        for (String word : FORBIDDEN) {
            DUE.holds("no " + word, !Pattern.compile("\\b" + Pattern.quote(word) + "\\b").matcher(code).find());
        }
        DUE.holds("no lambda", !code.contains("->"));
        DUE.holds("no method reference", !code.contains("::"));
        DUE.holds("no texts joined by +", !Pattern.compile("\"\\s*\\+|\\+\\s*\"").matcher(code).find());
        DUE.holds("no Math of Exact", !code.contains("Exact"));
        DUE.holds("no package", !code.contains("package "));
        Matcher imports = Pattern.compile("import ([^;]*);").matcher(code);
        while (imports.find()) {
            DUE.holds("import of " + imports.group(1), imports.group(1).equals("java.util.Arrays"));
        }
        DUE.holds("plain letters alone", text.chars().allMatch(c -> c == '\n' || c >= 32 && c < 127));
        String[] heads = {"walls.", "acts.", "what comes, what is best.", "what was on his mind.",
            "slips, evenings."};
        String[] firsts = {"write", "stroke", "behind", "see", "slip"};
        for (int i = 0; i < heads.length; i++) {
            DUE.holds("the head of " + firsts[i], Pattern.compile(Pattern.quote("---- " + heads[i])
                    + "\\s*public int " + firsts[i] + "\\(").matcher(text).find());
        }
        methods(code);
    }

    /** Methods stay short, and take seven parameters at most. */
    private static void methods(String code) {
        String[] lines = code.split("\n");
        Pattern head = Pattern.compile("^( {4}| {8})[a-zA-Z][^=;]*\\(([^)]*)\\) \\{$");
        for (int i = 0; i < lines.length; i++) {
            Matcher m = head.matcher(lines[i]);
            if (m.find() && !lines[i].contains("class ")) {
                int end = i;
                while (end < lines.length && !lines[end].equals(m.group(1) + "}")) {
                    end++;
                }
                DUE.holds("short: " + lines[i].trim(), end - i <= 60);
                DUE.holds("few parameters: " + lines[i].trim(), m.group(2).split(",").length <= 7);
            }
        }
    }
}
