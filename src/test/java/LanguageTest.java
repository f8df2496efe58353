import java.io.IOException;
import java.lang.reflect.Constructor;
import java.lang.reflect.Field;
import java.lang.reflect.Method;
import java.lang.reflect.Modifier;
import java.nio.file.Files;
import java.nio.file.Path;
import java.util.ArrayList;
import java.util.Arrays;
import java.util.List;
import java.util.TreeSet;
import java.util.regex.Pattern;

/** Looks for breaches of ../shared/LANGUAGE.md that the program's text and its compiled classes show. */
public final class LanguageTest {
    private static final Path SOURCE = Path.of("src/main/java/FallingBlocks.java");
    private static final Path DOCUMENT = Path.of("../shared/DOC.md");
    private static final List<String> FORBIDDEN = List.of("->", "::", "\\btry\\b", "\\bcatch\\b", "\\bfinally\\b",
            "\\bsynchronized\\b", "\\bassert\\b", "\\bvar\\b", "\\bpackage\\b", "\\bprotected\\b", "Exact\\(",
            "java\\.(?!util\\.(Arrays|NoSuchElementException))", "System\\.(?!arraycopy)", "[^\\x00-\\x7f]",
            "Arrays\\.(?!fill\\(|\\*)", "\\w \\+ \"", "\" \\+ \\w");
    private static int wrong = 0;

    private LanguageTest() {
    }

    public static void main(String[] args) throws IOException {
        List<String> lines = Files.readAllLines(SOURCE);
        checkFace(Files.readString(DOCUMENT));
        checkMembers();
        checkWords(lines);
        checkMethods(lines);
        checkAllocations(lines);
        if (wrong > 0) {
            System.exit(1);
        }
    }

    private static void fail(String text) {
        wrong++;
        System.out.println("LanguageTest: " + text);
    }

    /** The public members are those of the document's public face, with their exceptions. */
    private static void checkFace(String document) {
        TreeSet<String> due = new TreeSet<>();
        int start = document.indexOf("public final class FallingBlocks");
        for (String line : document.substring(start, document.indexOf("```", start)).split("\n")) {
            if (line.startsWith("    public ")) {
                due.add(line.trim().replaceAll("\\b(int|char) \\w+(?=[,)])", "$1").replace(";", ""));
            }
        }
        TreeSet<String> got = new TreeSet<>();
        for (Constructor<?> constructor : FallingBlocks.class.getConstructors()) {
            got.add("public FallingBlocks()" + thrown(constructor.getExceptionTypes()));
        }
        for (Method method : FallingBlocks.class.getDeclaredMethods()) {
            if (Modifier.isPublic(method.getModifiers())) {
                List<String> types = new ArrayList<>();
                for (Class<?> type : method.getParameterTypes()) {
                    types.add(type.getSimpleName());
                }
                got.add("public " + method.getReturnType().getSimpleName() + " " + method.getName() + "("
                        + String.join(", ", types) + ")" + thrown(method.getExceptionTypes()));
            }
        }
        if (!got.equals(due)) {
            fail("the face is " + got + ", due is " + due);
        }
    }

    private static String thrown(Class<?>[] types) {
        List<String> names = new ArrayList<>();
        for (Class<?> type : types) {
            names.add(type.getSimpleName());
        }
        return names.isEmpty() ? "" : " throws " + String.join(", ", names);
    }

    private static void checkMembers() {
        TreeSet<String> publicNames = new TreeSet<>();
        for (Method method : FallingBlocks.class.getDeclaredMethods()) {
            int modifiers = method.getModifiers();
            if (Modifier.isPublic(modifiers)) {
                publicNames.add(method.getName());
            }
        }
        List<Class<?>> classes = new ArrayList<>(Arrays.asList(FallingBlocks.class.getDeclaredClasses()));
        for (Class<?> inside : classes) {
            if (!Modifier.isStatic(inside.getModifiers()) || Modifier.isPublic(inside.getModifiers())) {
                fail(inside.getName() + " is not a static class of the program's own");
            }
        }
        classes.add(FallingBlocks.class);
        if (classes.size() > 12) {
            fail("there are " + classes.size() + " classes");
        }
        for (Class<?> owner : classes) {
            for (Method method : owner.getDeclaredMethods()) {
                boolean isFace = owner == FallingBlocks.class && Modifier.isPublic(method.getModifiers());
                if (!isFace && publicNames.contains(method.getName())) {
                    fail(owner.getName() + "." + method.getName() + " bears the name of a public method");
                }
                if (!isFace && owner == FallingBlocks.class && !Modifier.isPrivate(method.getModifiers())) {
                    fail(method.getName() + " is neither of the face nor private");
                }
                if (method.getParameterCount() > 7) {
                    fail(method.getName() + " has more than seven parameters");
                }
            }
            checkFields(owner);
        }
    }

    private static void checkFields(Class<?> owner) {
        int count = 0;
        for (Field field : owner.getDeclaredFields()) {
            int modifiers = field.getModifiers();
            if (Modifier.isStatic(modifiers) && !Modifier.isFinal(modifiers)) {
                fail(field + " is static and can change");
            }
            if (owner == FallingBlocks.class && !Modifier.isPrivate(modifiers)) {
                fail(field + " is not private");
            }
            count += Modifier.isStatic(modifiers) ? 0 : 1;
        }
        if (count > 20) {
            fail(owner.getName() + " has " + count + " fields");
        }
    }

    private static void checkWords(List<String> lines) {
        for (int i = 0; i < lines.size(); i++) {
            for (String forbidden : FORBIDDEN) {
                if (Pattern.compile(forbidden).matcher(lines.get(i)).find()) {
                    fail("line " + (i + 1) + " has " + forbidden + ": " + lines.get(i).trim());
                }
            }
            if (lines.get(i).length() > 120) {
                fail("line " + (i + 1) + " is longer than 120 signs");
            }
        }
    }

    /** A method begins with a line that ends in "{" and stands at the depth of members; it ends at the same depth. */
    private static void checkMethods(List<String> lines) {
        int start = -1;
        String end = "";
        for (int i = 0; i < lines.size(); i++) {
            String line = lines.get(i);
            boolean isMember = line.matches("(    |        )[A-Za-z].*\\).*\\{");
            if (start < 0 && isMember && !line.contains("class ")) {
                start = i;
                end = line.substring(0, line.length() - line.stripLeading().length()) + "}";
            } else if (start >= 0 && line.equals(end)) {
                if (i - start > 60) {
                    fail("the method at line " + (start + 1) + " has more than sixty lines");
                }
                start = -1;
            }
        }
    }

    /** All objects are made with the game, so that a run needs as many as it begins with. */
    private static void checkAllocations(List<String> lines) {
        for (int i = 0; i < lines.size(); i++) {
            String line = lines.get(i).trim();
            boolean isField = line.matches("(private )?final [\\w\\[\\]]+ \\w+ = new .*;");
            boolean isRecord = line.equals("records[i] = new Game();");
            boolean isThrow = line.startsWith("throw new ");
            boolean isComment = line.startsWith("*") || line.startsWith("/**");
            if (line.matches(".*\\bnew\\b.*") && !isField && !isRecord && !isThrow && !isComment) {
                fail("line " + (i + 1) + " makes an object: " + line);
            }
        }
    }
}
