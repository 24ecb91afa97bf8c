import java.io.IOException;
import java.lang.reflect.Constructor;
import java.lang.reflect.Field;
import java.lang.reflect.Method;
import java.lang.reflect.Modifier;
import java.nio.file.Files;
import java.nio.file.Path;
import java.util.ArrayList;
import java.util.List;
import java.util.Set;
import java.util.TreeSet;
import java.util.regex.Matcher;
import java.util.regex.Pattern;

/** The public face as the document tells it, and those rules of LANGUAGE.md that can be seen in the source. */
final class FaceTest {
    private static final String SOURCE = "src/main/java/DebtCouncil.java";
    private static final String[] FACE = {
        "months i", "province ii", "yield1 iii", "yields iii", "guards ii", "rate ii", "harvest ii", "gather iiii",
        "bestRate iii", "least iii", "provinceOf ii", "debt iii", "debtOf iii", "voids i", "feed li", "read ",
        "line iii", "why iii", "gets iii", "lag ii", "knows ii", "swap iii", "offer ii", "railway iii", "railwayOf ii",
        "paper iiii", "bills i", "taking ii", "takings i", "choice iiii", "choose i", "row ii", "alterRow iii",
        "dropRow ", "judge i", "sheet iii", "put iii", "item iii", "shelf iii", "taken ii", "deal iii", "trace i",
        "many i", "keep ", "again "
    };
    private static final String[] FORBIDDEN = {
        "throw", "throws", "try", "catch", "synchronized", "assert", "->", "::", "@", "record", "interface", "Random",
        "System.nanoTime", "System.currentTimeMillis", "Exact", "double", "float", "ArrayList", "volatile", "Thread"
    };

    private static final Checks C = new Checks();

    public static void main(String[] args) throws IOException {
        face();
        members();
        String source = Files.readString(Path.of(SOURCE));
        words(source);
        library(bare(source));
        methodsAreShort(source);
        C.end();
    }

    private static void face() {
        Set<String> found = new TreeSet<>();
        for (Method m : DebtCouncil.class.getDeclaredMethods()) {
            if (Modifier.isPublic(m.getModifiers())) {
                StringBuilder head = new StringBuilder(m.getName()).append(' ');
                for (Class<?> p : m.getParameterTypes()) {
                    head.append(p == int.class ? 'i' : p == long.class ? 'l' : '?');
                }
                found.add(m.getReturnType() == int.class && !Modifier.isStatic(m.getModifiers()) ? head.toString() : "?");
            }
        }
        Set<String> due = new TreeSet<>(List.of(FACE));
        if (!found.equals(due)) {
            System.out.println("the face is " + found);
        }
        C.due("the public methods are those of the document", found.equals(due) ? 1 : 0, 1);
        C.due("public and final", DebtCouncil.class.getModifiers(), Modifier.PUBLIC | Modifier.FINAL);
        Constructor<?>[] made = DebtCouncil.class.getDeclaredConstructors();
        C.due("one constructor", made.length, 1);
        C.due("public, of nothing", made[0].getParameterCount() * 10 + made[0].getModifiers(), Modifier.PUBLIC);
    }

    private static void members() {
        Set<String> names = new TreeSet<>();
        for (String head : FACE) {
            names.add(head.substring(0, head.indexOf(' ')));
        }
        int others = 0;
        for (Field f : DebtCouncil.class.getDeclaredFields()) {
            boolean told = List.of("BAD", "FULL", "NONE", "STATE").contains(f.getName());
            others += Modifier.isPrivate(f.getModifiers()) != told ? 0 : 1;
            others += Modifier.isStatic(f.getModifiers()) && !Modifier.isFinal(f.getModifiers()) ? 1 : 0;
        }
        List<Class<?>> classes = new ArrayList<>(List.of(DebtCouncil.class.getDeclaredClasses()));
        for (Class<?> inner : classes) {
            others += Modifier.isStatic(inner.getModifiers()) ? 0 : 1;
            others += inner.getDeclaredFields().length > 22 ? 1 : 0;
            for (Method m : inner.getDeclaredMethods()) {
                others += names.contains(m.getName()) ? 1 : 0;
            }
        }
        classes.add(DebtCouncil.class);
        for (Class<?> c : classes) {
            for (Method m : c.getDeclaredMethods()) {
                boolean hidden = c != DebtCouncil.class || Modifier.isPrivate(m.getModifiers());
                others += hidden && names.contains(m.getName()) ? 1 : 0;
                others += !hidden && !names.contains(m.getName()) ? 1 : 0;
                others += m.getParameterCount() > 7 ? 1 : 0;
            }
        }
        C.due("members beside the face, or of its names", others, 0);
        C.due("some twelve classes", classes.size() <= 13 ? 1 : 0, 1);
    }

    /** The source without its comments and quoted texts. */
    private static String bare(String source) {
        return source.replaceAll("(?s)/\\*.*?\\*/", "").replaceAll("//[^\n]*", "").replaceAll("\"[^\"\n]*\"", "\"\"");
    }

    private static void words(String source) {
        String bare = bare(source);
        for (String word : FORBIDDEN) {
            boolean letters = Character.isLetter(word.charAt(0)) && !word.equals("Exact");
            Matcher m = Pattern.compile(letters ? "\\b" + Pattern.quote(word) + "\\b" : Pattern.quote(word)).matcher(bare);
            C.due("'" + word + "' stands in the source", m.find() ? 1 : 0, 0);
        }
        Matcher imports = Pattern.compile("(?m)^import (.*);").matcher(bare);
        while (imports.find()) {
            C.due("import " + imports.group(1), imports.group(1).equals("java.util.Arrays") ? 1 : 0, 1);
        }
        C.due("no package", bare.contains("package ") ? 1 : 0, 0);
    }

    /** Rule 4: only what it lists, and Arrays.fill over numbers alone. */
    private static void library(String bare) {
        Set<String> told = Set.of("Math.min", "Math.max", "Math.abs", "Arrays.fill", "Arrays.copyOf", "System.arraycopy");
        Matcher calls = Pattern.compile("\\b(Math|Arrays|System|Integer|Long|String)\\.\\w+").matcher(bare);
        while (calls.find()) {
            C.due(calls.group() + " is told in rule 4", told.contains(calls.group()) ? 1 : 0, 1);
        }
        Matcher fills = Pattern.compile("Arrays\\.fill\\([^;]*\\b(true|false)\\)").matcher(bare);
        C.due("Arrays.fill over booleans", fills.find() ? 1 : 0, 0);
    }

    private static void methodsAreShort(String source) {
        int from = 0;
        String[] lines = source.split("\n");
        for (int i = 0; i < lines.length; i++) {
            if (lines[i].matches("( {4}| {8})[^ /*].*\\) \\{")) {
                from = i;
            }
            if (lines[i].matches("( {4}| {8})\\}") && i - from > 60) {
                String head = lines[from].trim();
                C.due("lines of " + head, head.startsWith("private static final class") ? 60 : i - from, 60);
            }
        }
    }
}
