import java.io.IOException;
import java.lang.reflect.Constructor;
import java.lang.reflect.Field;
import java.lang.reflect.Method;
import java.lang.reflect.Modifier;
import java.nio.file.Files;
import java.nio.file.Path;
import java.util.ArrayList;
import java.util.List;
import java.util.Set;
import java.util.TreeSet;
import java.util.regex.Matcher;
import java.util.regex.Pattern;

/** The class's face against the document's, and the rules of the language that can be looked at from outside. */
public final class LanguageTest {
    private static int wrong = 0;

    public static void main(String[] args) throws IOException {
        String source = Files.readString(Path.of("src/main/java/StatuteBook.java"));
        String document = Files.readString(Path.of("../shared/DOC.md"));
        theFace(document);
        theClassesInside();
        theSource(source);
        System.out.println(wrong == 0 ? "the language is kept" : wrong + " rules are broken");
        if (wrong != 0) System.exit(1);
    }

    private static void must(boolean so, String what) {
        if (!so) {
            wrong++;
            System.out.println("not so: " + what);
        }
    }

    private static void theFace(String document) {
        Class<?> book = StatuteBook.class;
        must(Modifier.isPublic(book.getModifiers()) && Modifier.isFinal(book.getModifiers()), "the class is public and final");
        Set<String> promised = new TreeSet<>();
        Matcher m = Pattern.compile("    public ((?:int|long) \\w+\\([^)]*\\));").matcher(document);
        while (m.find()) promised.add(m.group(1).replaceAll("(int|long) \\w+(?=[,)])", "$1"));
        must(promised.size() == 40, "the document promises 40 calls");
        Set<String> there = new TreeSet<>(), names = new TreeSet<>();
        for (Method one : book.getDeclaredMethods()) {
            if (Modifier.isPrivate(one.getModifiers())) continue;
            must(one.getModifiers() == Modifier.PUBLIC, one + " is public alone");
            List<String> types = new ArrayList<>();
            for (Class<?> type : one.getParameterTypes()) types.add(type.getName());
            there.add(one.getReturnType().getName() + " " + one.getName() + "(" + String.join(", ", types) + ")");
            names.add(one.getName());
        }
        must(there.equals(promised), "the calls are those of the document: " + there + " and " + promised);
        for (Field one : book.getDeclaredFields()) {
            boolean constant = Set.of("NONE", "BAD", "STATE", "FULL", "NO").contains(one.getName());
            must(constant == !Modifier.isPrivate(one.getModifiers()), one + " is as open as it must be");
        }
        for (Method one : book.getDeclaredMethods()) {
            must(!Modifier.isPrivate(one.getModifiers()) || !names.contains(one.getName()), one + " has a name of its own");
        }
        for (Constructor<?> one : book.getDeclaredConstructors()) must(Modifier.isPublic(one.getModifiers()), one + " is public");
    }

    private static void theClassesInside() {
        Class<?>[] inside = StatuteBook.class.getDeclaredClasses();
        must(inside.length < 12, "there are at most twelve classes");
        for (Class<?> one : inside) {
            int how = one.getModifiers();
            must(Modifier.isStatic(how) && !Modifier.isPublic(how) && !Modifier.isProtected(how), one + " is static and not open");
            must(one.getDeclaredFields().length < 60, one + " has few fields");
            for (Method method : one.getDeclaredMethods()) must(method.getParameterCount() <= 7, method + " has at most seven parameters");
            int fields = 0;
            for (Field field : one.getDeclaredFields()) {
                if (!Modifier.isStatic(field.getModifiers())) fields++;
                else must(Modifier.isFinal(field.getModifiers()), field + " is final");
            }
            must(fields <= 20, one + " has at most twenty fields");
        }
    }

    private static void theSource(String source) {
        String code = source.replaceAll("(?s)/\\*.*?\\*/", "").replaceAll("//[^\n]*", "");
        String[] ruledOut = {"import ", "package ", "->", "::", "\\bDouble\\.", "\\bFloat\\.", "\\btry\\b", "\\bcatch\\b", "\\bthrow\\b", "synchronized",
            "\\bassert\\b", "String\\.format", "static \\{", "Exact\\(", "\\bList\\b", "ArrayList", "System\\.(?!arraycopy)", "Math\\.(?!max|min|abs)",
            "\\bnull\\b", "Object\\b", "\" \\+", "\\+ \""};
        for (String one : ruledOut) must(!Pattern.compile(one).matcher(code).find(), "no " + one + " in the class");
        for (int i = 0; i < source.length(); i++) must(source.charAt(i) < 128, "plain signs alone, at " + i);
        int began = -1;
        String[] lines = source.split("\n");
        for (int i = 0; i < lines.length; i++) {
            must(lines[i].length() <= 140, "line " + (i + 1) + " is at most 140 signs long");
            boolean makes = lines[i].replaceAll("//.*|^ *\\*.*", "").matches(".*\\bnew [A-Za-z].*");
            must(!makes || lines[i].matches(" +private final .*"), "line " + (i + 1) + " makes objects with the book alone, and no call does");
            if (lines[i].matches(" {4,8}(public|private|static|int|long|boolean|void|String)\\b.*\\) \\{")) began = i;
            if (began >= 0 && lines[i].matches(" {4,8}\\}")) {
                must(i - began < 60, "the method of line " + (began + 1) + " is short");
                began = -1;
            }
        }
    }
}
