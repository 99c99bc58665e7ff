import java.io.IOException;
import java.lang.reflect.Constructor;
import java.lang.reflect.Field;
import java.lang.reflect.Method;
import java.lang.reflect.Modifier;
import java.nio.file.Files;
import java.nio.file.Path;
import java.util.ArrayList;
import java.util.List;
import java.util.Set;
import java.util.TreeSet;
import java.util.regex.Matcher;
import java.util.regex.Pattern;

/** The face of the document, and such rules of LANGUAGE.md as can be seen from the class and its text. */
public final class LanguageTests {
    private static int wrong = 0;

    private static void must(boolean holds, String what) {
        if (holds) return;
        wrong++;
        System.out.println(what);
    }

    public static void main(String[] args) throws IOException {
        Path root = Path.of(args.length > 0 ? args[0] : ".");
        face(Files.readString(root.resolve("../shared/DOC.md")));
        classes();
        String source = Files.readString(root.resolve("src/main/java/SeatsRound.java"));
        groups(Files.readString(root.resolve("../shared/DOC.md")), source);
        text(source);
        System.out.println(wrong == 0 ? "the face and the language are as told" : wrong + " things are not as told");
        if (wrong != 0) System.exit(1);
    }

    /** Rule 1: every line of the document's face, and nothing else that can be seen. */
    private static void face(String doc) {
        Set<String> want = new TreeSet<>(), got = new TreeSet<>();
        Matcher m = Pattern.compile("public (int|long) (\\w+)\\(([^)]*)\\);").matcher(doc);
        while (m.find()) want.add(m.group(1) + " " + m.group(2) + "(" + m.group(3).replaceAll(" \\w+(?=,|$)", "").replace(" ", "") + ")");
        Set<String> open = new TreeSet<>(), hidden = new TreeSet<>();
        for (Method method : SeatsRound.class.getDeclaredMethods()) {
            if (Modifier.isPrivate(method.getModifiers())) {
                hidden.add(method.getName());
                continue;
            }
            must(Modifier.isPublic(method.getModifiers()) && !Modifier.isStatic(method.getModifiers()), "not of the face: " + method);
            open.add(method.getName());
            List<String> types = new ArrayList<>();
            for (Class<?> type : method.getParameterTypes()) types.add(type.getName());
            got.add(method.getReturnType().getName() + " " + method.getName() + "(" + String.join(",", types) + ")");
        }
        must(want.size() == 41, "the document's face has " + want.size() + " methods");
        must(want.equals(got), "the face is " + got + ", due is " + want);
        for (String name : open) must(!hidden.contains(name), "a private method bears a public one's name: " + name);
        for (Class<?> inside : SeatsRound.class.getDeclaredClasses()) {
            for (Method method : inside.getDeclaredMethods()) must(!open.contains(method.getName()), "a method inside bears a public one's name: " + method);
        }
        Set<String> constants = new TreeSet<>();
        for (Field f : SeatsRound.class.getDeclaredFields()) {
            if (!Modifier.isPrivate(f.getModifiers())) constants.add(f.getName());
        }
        must(constants.equals(Set.of("BAD", "NOT", "FULL", "STATE", "VOID")), "constants: " + constants);
        Constructor<?>[] makers = SeatsRound.class.getDeclaredConstructors();
        must(makers.length == 1 && Modifier.isPublic(makers[0].getModifiers()) && makers[0].getParameterCount() == 0, "the constructor");
        must(Modifier.isFinal(SeatsRound.class.getModifiers()), "the class is final");
    }

    /** "Ahead of the calls .. the interface says": each group's calls stand behind its line and ahead of the next one. */
    private static void groups(String doc, String source) {
        Matcher group = Pattern.compile("Ahead of the calls (.*) the interface says: (---- .*)\\.\n").matcher(doc);
        int many = 0;
        while (group.find()) {
            many++;
            int from = source.indexOf("// " + group.group(2) + "\n");
            int to = source.indexOf("// ---- ", from + 1);
            must(from >= 0, "a line that is missing: " + group.group(2));
            if (from < 0) continue;
            String part = source.substring(from, to < 0 ? source.length() : to);
            Matcher call = Pattern.compile("`(\\w+)`").matcher(group.group(1));
            while (call.find()) must(Pattern.compile("public (int|long) " + call.group(1) + "\\(").matcher(part).find(), call.group(1) + " is not behind " + group.group(2));
        }
        must(many == 5, "the document tells of " + many + " groups");
    }

    /** Rules 2, 5 and 11. */
    private static void classes() {
        List<Class<?>> all = new ArrayList<>(List.of(SeatsRound.class.getDeclaredClasses()));
        for (Class<?> inside : all) must(Modifier.isStatic(inside.getModifiers()), "not static: " + inside);
        all.add(SeatsRound.class);
        must(all.size() <= 12, all.size() + " classes");
        for (Class<?> c : all) {
            int fields = 0;
            for (Field f : c.getDeclaredFields()) {
                if (!Modifier.isStatic(f.getModifiers())) fields++;
                else must(Modifier.isFinal(f.getModifiers()), "static and not final: " + f);
            }
            must(fields <= 20, c + " has " + fields + " fields");
            for (Method m : c.getDeclaredMethods()) must(m.getParameterCount() <= 7, "too many parameters: " + m);
        }
    }

    /** Rules 2, 4, 6, 11 and 13, by words that must not stand in the text. */
    private static void text(String source) {
        String bare = source.replaceAll("(?s)/\\*.*?\\*/", "").replaceAll("//[^\n]*", "");
        String[] words = {
            "throw", "throws", "try", "catch", "synchronized", "assert", "native", "volatile", "transient", "Random", "System\\.(?!arraycopy)",
            "Thread", "File", "Object", "hashCode", "toString", "\\w+Exact", "Map", "Set", "stream", "package", "protected", "goto", "yield"};
        for (String word : words) must(!Pattern.compile("\\b" + word + (word.endsWith(")") ? "" : "\\b")).matcher(bare).find(), "a word that must not be there: " + word);
        must(!bare.contains("->") && !bare.contains("::"), "a lambda or a method reference");
        must(!bare.contains("\""), "texts are not needed");
        must(!Pattern.compile("while\\s*\\(\\s*true").matcher(bare).find(), "a loop without an end");
        Matcher imports = Pattern.compile("import ([^;]*);").matcher(bare);
        while (imports.find()) must(imports.group(1).equals("java.util.Arrays"), "import " + imports.group(1));
        for (char c : source.toCharArray()) {
            if (c > 126) {
                must(false, "a sign above 126");
                break;
            }
        }
        methodLengths(bare);
    }

    private static void methodLengths(String bare) {
        String[] lines = bare.split("\n");
        int from = -1;
        String end = "";
        for (int i = 0; i < lines.length; i++) {
            if (from < 0 && lines[i].matches("(    |        )[a-z].*\\) \\{")) {
                from = i;
                end = lines[i].replaceAll("\\S.*", "") + "}";
            } else if (from >= 0 && lines[i].equals(end)) {
                must(i - from <= 60, "a long method: " + lines[from]);
                from = -1;
            }
        }
    }
}
