import java.lang.reflect.Constructor;
import java.lang.reflect.Field;
import java.lang.reflect.Method;
import java.lang.reflect.Modifier;
import java.nio.charset.StandardCharsets;
import java.nio.file.Files;
import java.nio.file.Path;
import java.util.List;
import java.util.Set;
import java.util.TreeSet;
import java.util.regex.Matcher;
import java.util.regex.Pattern;

/** Those rules of ../shared/LANGUAGE.md that a look at the source, or at the compiled class, can tell. */
public final class LanguageTest {
    private static final String FACE = "row set copy drop feed square fault undo hours hang salt transcribe drive "
        + "fodder leaf goat ahead force emptied eats guilt gap hangs drives harm bait safeHeight who strayed rivals "
        + "wind drawn image restore kind as ask trace count status";
    private static final String BANNED = "throw throws try catch finally synchronized assert import package lambda "
        + "var record sealed enum protected volatile transient native strictfp float double System.out System.err "
        + "addExact toIntExact Object Exception Error Thread equals hashCode toString null\\s*==";

    public static void main(String[] args) throws Exception {
        String source = Files.readString(Path.of("src/main/java/VineLaws.java"), StandardCharsets.ISO_8859_1);
        String code = withoutComments(source);
        signsAreAscii(source);
        bannedWords(code);
        methodsAreShort(code);
        madeInConstructorsAlone(code);
        faceIsWhole();
        for (Class<?> c : VineLaws.class.getDeclaredClasses()) {
            classesInside(c);
        }
        Check.due("classes in all, at most twelve", VineLaws.class.getDeclaredClasses().length < 12 ? 1 : 0, 1);
        fields(VineLaws.class);
        Check.end();
    }

    private static String withoutComments(String source) {
        return source.replaceAll("(?s)/\\*.*?\\*/", "").replaceAll("//[^\n]*", "");
    }

    private static void signsAreAscii(String source) {
        Check.due("signs beyond 127", source.chars().filter(c -> c > 127).count(), 0);
    }

    private static void bannedWords(String code) {
        for (String word : BANNED.split(" ")) {
            Check.due("uses of " + word, count(code, "(?<![\\w.])" + word.replace(".", "\\.") + "(?!\\w)"), 0);
        }
        Check.due("arrows", count(code, "->"), 0);
        Check.due("method references", count(code, "::"), 0);
        Check.due("while loops", count(code, "\\bwhile\\b"), 0);
        Check.due("loops without bounds", count(code, "for \\([^;]*;\\s*;"), 0);
    }

    private static long count(String code, String pattern) {
        return Pattern.compile(pattern).matcher(code).results().count();
    }

    private static void methodsAreShort(String code) {
        Matcher m = Pattern.compile("(?m)^( +)(?:public|private)[^=;{]*\\(([^)]*)\\)[^;{]*\\{$").matcher(code);
        int methods = 0;
        while (m.find()) {
            int end = code.indexOf("\n" + m.group(1) + "}\n", m.start());
            long lines = code.substring(m.start(), end).lines().count() + 1;
            Check.due("lines of " + m.group().trim(), lines <= 60 ? 0 : lines, 0);
            Check.due("parameters of " + m.group().trim(), m.group(2).split(",").length <= 7 ? 0 : 1, 0);
            methods++;
        }
        Check.due("methods found", methods > 100 ? 1 : methods, 1);
    }

    /** A run has one room for all that its calls make, so calls make nothing. */
    private static void madeInConstructorsAlone(String code) {
        Matcher m = Pattern.compile("(?m)^.*\\bnew .*$").matcher(code);
        while (m.find()) {
            String line = m.group().trim();
            boolean field = line.startsWith("private final ");
            boolean filled = line.matches("(rows|squares|leaves|goats)\\[i\\] = new \\w+\\(i?\\);");
            Check.due("made outside a constructor: " + line, field || filled ? 1 : 0, 1);
        }
    }

    private static void faceIsWhole() {
        Check.due("public final", VineLaws.class.getModifiers(), Modifier.PUBLIC | Modifier.FINAL);
        Set<String> open = new TreeSet<>();
        List<String> face = List.of(FACE.split(" "));
        for (Method method : VineLaws.class.getDeclaredMethods()) {
            if (Modifier.isPrivate(method.getModifiers())) {
                Check.due("private " + method.getName(), face.contains(method.getName()) ? 1 : 0, 0);
            } else {
                Check.due("public " + method.getName(), method.getModifiers(), Modifier.PUBLIC);
                Check.due("twice " + method.getName(), open.add(method.getName()) ? 1 : 0, 1);
            }
        }
        Check.due("the face", open.equals(new TreeSet<>(face)) ? 1 : 0, 1);
        Constructor<?>[] constructors = VineLaws.class.getDeclaredConstructors();
        Check.due("constructors", constructors.length, 1);
        Check.due("public constructor", constructors[0].getModifiers(), Modifier.PUBLIC);
        for (Field field : VineLaws.class.getDeclaredFields()) {
            boolean told = List.of("NONE", "BAD", "STATE", "FULL").contains(field.getName());
            Check.due("open field " + field.getName(), Modifier.isPrivate(field.getModifiers()) ? 0 : 1, told ? 1 : 0);
        }
    }

    private static void classesInside(Class<?> c) {
        Check.due(c.getName() + " is static", Modifier.isStatic(c.getModifiers()) ? 1 : 0, 1);
        Check.due(c.getName() + " is not open", c.getModifiers() & (Modifier.PUBLIC | Modifier.PROTECTED), 0);
        for (Method method : c.getDeclaredMethods()) {
            Check.due(c.getName() + "." + method.getName(), List.of(FACE.split(" ")).contains(method.getName()) ? 1 : 0, 0);
        }
        fields(c);
    }

    private static void fields(Class<?> c) {
        int own = 0;
        for (Field field : c.getDeclaredFields()) {
            if (Modifier.isStatic(field.getModifiers())) {
                Check.due("static " + field.getName() + " is final", Modifier.isFinal(field.getModifiers()) ? 1 : 0, 1);
            } else {
                own++;
            }
        }
        Check.due("fields of " + c.getName(), own <= 20 ? 0 : own, 0);
    }
}
