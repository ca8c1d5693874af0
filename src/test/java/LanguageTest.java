import java.lang.reflect.Constructor;
import java.lang.reflect.Field;
import java.lang.reflect.Method;
import java.lang.reflect.Modifier;
import java.nio.file.Files;
import java.nio.file.Path;
import java.util.Set;
import java.util.TreeSet;

/** What of LANGUAGE.md can be seen from the source and the class: the face, and words that may not stand there. */
public final class LanguageTest {
    private static final Check check = new Check("LanguageTest");
    private static final Set<String> FACE = Set.of("guest(int,int,int)", "quarrel(int,int,boolean)",
        "table(int,int,int)", "clear(int,int)", "copy(int,int)", "at(int,int,int)", "meet(int,int,int)",
        "miss(int,int)", "counts(int,int,int,int)", "feed(int,int,int,int,int)", "end(int)", "rule()", "fault(int)",
        "by(int,int)", "judged(int,int,int)", "complete(int,int,int,int)", "part(int,int)", "tries()",
        "renamed(int,int)", "like(int,int)", "cheapest(int,int,int)", "sit(int,int,int)",
        "change(int,int,int,int)", "best(int,int,int,int)", "knows(int,int,int,int)", "all(int,int,int)",
        "ill(int,int,int,int,int)", "days(int)", "read(int,int,boolean)", "begun(int,int,int)", "question(int,int)",
        "image()", "back()", "about(int)");

    public static void main(String[] args) throws Exception {
        String source = Files.readString(Path.of("src/main/java/DinnerRounds.java"));
        words(source);
        lengths(source);
        face();
        inside();
        check.close();
    }

    private static void words(String source) {
        String code = source.replaceAll("(?s)/\\*.*?\\*/", "").replaceAll("//[^\n]*", "");
        for (String word : new String[] {"throw", "throws", "try", "catch", "finally", "synchronized", "assert",
            "package", "volatile", "native", "var", "protected", "System\\.(?!arraycopy)\\w+", "Exact"}) {
            check.due("stands there: " + word, code.matches("(?s).*\\b" + word + "\\b.*"), false);
        }
        for (String sign : new String[] {"->", "::", "+ \"", "\" +", "@", "\t"}) {
            check.due("stands there: " + sign, code.contains(sign), false);
        }
        check.due("other signs than 10 and 32 to 126", source.matches("[\n -~]*"), true);
        check.due("imports", code.replaceAll("import java\\.util\\.(Arrays|ArrayList|List);", "").contains("import"),
            false);
        check.due("a line above 120 signs", source.matches("(?s).*[^\n]{121}.*"), false);
    }

    /** No method is above sixty lines: one begins at a line that ends in ") {" less deep than its body. */
    private static void lengths(String source) {
        String[] lines = source.split("\n");
        for (int depth = 4; depth <= 8; depth += 4) {
            String indent = " ".repeat(depth);
            for (int i = 0; i < lines.length; i++) {
                if (lines[i].matches(indent + "[a-zA-Z].*\\) \\{")) {
                    int end = i;
                    while (!lines[end].equals(indent + "}")) {
                        end++;
                    }
                    check.due("above sixty lines: " + lines[i].trim(), end - i > 60, false);
                }
            }
        }
    }

    private static void face() {
        Class<?> c = DinnerRounds.class;
        check.due("public and final", Modifier.isPublic(c.getModifiers()) && Modifier.isFinal(c.getModifiers()), true);
        Set<String> found = new TreeSet<>();
        Set<String> names = new TreeSet<>();
        for (Method m : c.getDeclaredMethods()) {
            if (Modifier.isPublic(m.getModifiers())) {
                found.add(m.toString().replaceAll(".*DinnerRounds\\.", ""));
                names.add(m.getName());
            }
        }
        check.due("the face's methods: " + found, found.equals(FACE), true);
        check.due("one constructor", c.getDeclaredConstructors().length, 1);
        check.due("it is public", c.getConstructors().length, 1);
        for (Method m : c.getDeclaredMethods()) {
            boolean isPublic = Modifier.isPublic(m.getModifiers());
            check.due("public or private: " + m, isPublic || Modifier.isPrivate(m.getModifiers()), true);
            check.due("a public name: " + m, !isPublic && names.contains(m.getName()), false);
        }
        for (Field f : c.getDeclaredFields()) {
            check.due("a field: " + f, Modifier.isPrivate(f.getModifiers()) || f.getName().equals("NONE"), true);
        }
        for (Class<?> in : c.getDeclaredClasses()) {
            for (Method m : in.getDeclaredMethods()) {
                check.due("a public name inside: " + m, names.contains(m.getName()), false);
            }
        }
    }

    private static void inside() {
        Class<?>[] inside = DinnerRounds.class.getDeclaredClasses();
        check.due("at most twelve classes", inside.length + 1 <= 12, true);
        limits(DinnerRounds.class);
        for (Class<?> c : inside) {
            check.due("static: " + c, Modifier.isStatic(c.getModifiers()), true);
            check.due("not public: " + c, Modifier.isPublic(c.getModifiers()), false);
            limits(c);
        }
    }

    private static void limits(Class<?> c) {
        int fields = 0;
        for (Field f : c.getDeclaredFields()) {
            boolean isStatic = Modifier.isStatic(f.getModifiers());
            fields += isStatic ? 0 : 1;
            check.due("static and not final: " + f, isStatic && !Modifier.isFinal(f.getModifiers()), false);
        }
        check.due("at most twenty fields: " + c, fields <= 20, true);
        for (Method m : c.getDeclaredMethods()) {
            check.due("at most seven parameters: " + m, m.getParameterCount() <= 7, true);
        }
        for (Constructor<?> k : c.getDeclaredConstructors()) {
            check.due("at most seven parameters: " + k, k.getParameterCount() <= 7, true);
        }
    }
}
