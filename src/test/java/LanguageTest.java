import java.io.IOException;
import java.lang.reflect.Constructor;
import java.lang.reflect.Field;
import java.lang.reflect.Member;
import java.lang.reflect.Method;
import java.lang.reflect.Modifier;
import java.nio.charset.StandardCharsets;
import java.nio.file.Files;
import java.nio.file.Path;
import java.util.ArrayList;
import java.util.List;
import java.util.Set;
import java.util.TreeSet;
import java.util.regex.Matcher;
import java.util.regex.Pattern;

/** The rules of LANGUAGE.md that can be read off the source or the compiled class; run from the project's folder. */
public final class LanguageTest {
    private static final Check CHECK = new Check("LanguageTest");
    private static final Pattern BARRED = Pattern.compile(
        "\\b(throw|throws|try|catch|finally|synchronized|assert|import|package|volatile|native|hashCode|toString"
        + "|\\w+Exact|Object|var|record|sealed)\\b|->|::|@");
    private static final Set<String> LIBRARY = Set.of("Math", "Integer", "Long", "System", "String");

    public static void main(String[] args) throws IOException {
        String source = Files.readString(Path.of("src/main/java/GleanDusk.java"), StandardCharsets.ISO_8859_1);
        String document = Files.readString(Path.of("../shared/DOC.md"), StandardCharsets.UTF_8);
        face(document);
        members();
        words(source);
        methodLengths(source);
        CHECK.end();
    }

    private static void holds(String what, boolean so) {
        CHECK.due(what, so ? 1 : 0, 1);
    }

    /** The public members are the document's, and no others. */
    private static void face(String document) {
        Set<String> wanted = new TreeSet<>();
        Matcher method = Pattern.compile("    public (int|long) (\\w+)\\(([^)]*)\\);").matcher(document);
        while (method.find()) {
            int many = method.group(3).isEmpty() ? 0 : method.group(3).split(",").length;
            wanted.add(method.group(1) + " " + method.group(2) + " " + many);
        }
        Set<String> there = new TreeSet<>();
        Set<String> open = new TreeSet<>();
        for (Method m : GleanDusk.class.getDeclaredMethods()) {
            if (!Modifier.isPublic(m.getModifiers())) continue;
            there.add(m.getReturnType() + " " + m.getName() + " " + m.getParameterCount());
            open.add(m.getName());
            for (Class<?> type : m.getParameterTypes()) holds(m.getName() + " takes int", type == int.class);
        }
        holds("the face is " + wanted + ", there is " + there, wanted.size() == 35 && wanted.equals(there));
        for (Class<?> type : allClasses()) {
            for (Method m : type.getDeclaredMethods()) {
                boolean own = type == GleanDusk.class && Modifier.isPublic(m.getModifiers());
                holds(m + " bears a public name", own || !open.contains(m.getName()));
            }
        }
    }

    private static List<Class<?>> allClasses() {
        List<Class<?>> all = new ArrayList<>(List.of(GleanDusk.class.getDeclaredClasses()));
        all.add(GleanDusk.class);
        return all;
    }

    private static void members() {
        holds("at most twelve classes", allClasses().size() <= 12);
        for (Class<?> type : GleanDusk.class.getDeclaredClasses()) {
            holds(type + " is private and static",
                Modifier.isPrivate(type.getModifiers()) && Modifier.isStatic(type.getModifiers()));
        }
        Set<String> constants = Set.of("NONE", "BAD", "NO", "FULL");
        for (Field f : GleanDusk.class.getDeclaredFields()) onlyPrivate(f, constants.contains(f.getName()));
        for (Method m : GleanDusk.class.getDeclaredMethods()) onlyPrivate(m, Modifier.isPublic(m.getModifiers()));
        for (Constructor<?> c : GleanDusk.class.getDeclaredConstructors()) onlyPrivate(c, true);
        for (Class<?> type : allClasses()) {
            int fields = 0;
            for (Field f : type.getDeclaredFields()) {
                boolean fixed = Modifier.isStatic(f.getModifiers());
                if (!fixed) fields++;
                holds(f + " is final", !fixed || Modifier.isFinal(f.getModifiers()) && f.getType() == int.class);
            }
            holds(type + " has at most twenty fields", fields <= 20);
            for (Method m : type.getDeclaredMethods()) holds(m + " takes at most seven", m.getParameterCount() <= 7);
        }
    }

    private static void onlyPrivate(Member member, boolean open) {
        int how = member.getModifiers();
        holds(member + " is public or private as it should", open ? Modifier.isPublic(how) : Modifier.isPrivate(how));
    }

    private static String withoutComments(String source) {
        return source.replaceAll("(?s)/\\*.*?\\*/", "").replaceAll("//[^\n]*", "");
    }

    private static void words(String source) {
        for (int i = 0; i < source.length(); i++) {
            if (source.charAt(i) > 126) holds("sign " + (int) source.charAt(i) + " at " + i, false);
        }
        String code = withoutComments(source);
        Matcher barred = BARRED.matcher(code);
        while (barred.find()) holds("no " + barred.group(), false);
        Matcher library = Pattern.compile("\\b([A-Z]\\w*[a-z]\\w*)\\b").matcher(code);
        Set<String> own = new TreeSet<>(LIBRARY);
        for (Class<?> type : allClasses()) own.add(type.getSimpleName());
        while (library.find()) holds(library.group(1) + " is told in LANGUAGE.md", own.contains(library.group(1)));
    }

    /** From a method's head to the brace that closes it, by their indents. */
    private static void methodLengths(String source) {
        String[] lines = source.split("\n");
        for (int i = 0; i < lines.length; i++) {
            Matcher head = Pattern.compile("^( {4}| {8})\\w[\\w\\[\\] ]*\\(.*\\) \\{$").matcher(lines[i]);
            if (!head.matches()) continue;
            int end = i;
            while (end < lines.length && !lines[end].equals(head.group(1) + "}")) end++;
            if (!lines[i].contains(" if ") && !lines[i].contains(" for ")) {
                holds("'" + lines[i].trim() + "' has at most sixty lines", end - i < 60);
            }
        }
    }
}
