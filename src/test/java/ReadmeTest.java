import java.lang.reflect.Method;
import java.lang.reflect.Modifier;
import java.nio.file.Files;
import java.nio.file.Path;
import java.util.regex.Matcher;
import java.util.regex.Pattern;

/** Makes the calls of README.md's first example, and looks that the page names every call of the face. */
public final class ReadmeTest {
    private static final Check check = new Check("ReadmeTest");
    private static final Pattern MADE = Pattern.compile("DinnerRounds club = new DinnerRounds\\((\\d+)\\);.*");
    private static final Pattern TOLD = Pattern.compile("tell\\(club, \"(.*)\"\\);");
    private static final Pattern CALLED = Pattern.compile("club\\.(\\w+)\\((.*?)\\); +// (-?\\w+).*");

    public static void main(String[] args) throws Exception {
        String page = Files.readString(Path.of("README.md"));
        int from = page.indexOf("```java\n") + 8;
        example(page.substring(from, page.indexOf("```", from)));
        for (Method m : DinnerRounds.class.getDeclaredMethods()) {
            if (Modifier.isPublic(m.getModifiers())) {
                check.due("the page names " + m.getName(), page.contains("`" + m.getName() + "`"), true);
            }
        }
        check.close();
    }

    private static void example(String lines) throws Exception {
        DinnerRounds club = null;
        for (String line : lines.split("\n")) {
            Matcher made = MADE.matcher(line);
            Matcher told = TOLD.matcher(line);
            Matcher called = CALLED.matcher(line);
            if (made.matches()) {
                club = new DinnerRounds(Integer.parseInt(made.group(1)));
            } else if (told.matches()) {
                check.due(line, Check.tell(club, told.group(1)), true);
            } else if (called.matches()) {
                check.due(line, number(answer(club, called.group(1), called.group(2))), number(called.group(3)));
            } else {
                check.due("a line that is no call: " + line, line.isEmpty(), true);
            }
        }
    }

    private static String answer(DinnerRounds club, String name, String given) throws Exception {
        for (Method m : DinnerRounds.class.getDeclaredMethods()) {
            if (m.getName().equals(name) && Modifier.isPublic(m.getModifiers())) {
                String[] words = given.isEmpty() ? new String[0] : given.split(", ");
                Object[] values = new Object[words.length];
                for (int i = 0; i < words.length; i++) {
                    boolean says = m.getParameterTypes()[i] == boolean.class;
                    values[i] = says ? (Object) words[i].equals("true") : (Object) number(words[i]);
                }
                return m.invoke(club, values).toString();
            }
        }
        return "-100";
    }

    private static int number(String word) {
        switch (word) {
            case "true": return 1;
            case "false": return 0;
            case "NONE": return DinnerRounds.NONE;
            default: return Integer.parseInt(word);
        }
    }
}
