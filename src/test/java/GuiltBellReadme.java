import java.lang.reflect.Method;
import java.lang.reflect.Modifier;
import java.nio.file.Files;
import java.nio.file.Path;
import java.util.List;
import java.util.regex.Pattern;

/** README.md's examples answer as it says there, and it speaks of every call and every test. */
public final class GuiltBellReadme {
    private static int wrong = 0;
    private static List<String> page = List.of();

    private static void check(boolean holds, String what) {
        if (holds) return;
        wrong++;
        System.out.println("not so: " + what);
    }

    /** The call stands in an example, and the remark behind it has the answer. */
    private static void told(String call, long got, long want) {
        check(got == want, call + " answers " + want + ", not " + got);
        Pattern line = Pattern.compile(".*" + Pattern.quote(call) + "; *// .*\\b" + want + "\\b.*");
        check(page.stream().anyMatch(s -> line.matcher(s).matches()), "README.md tells that " + call + " answers " + want);
    }

    private static void examples() {
        GuiltBell bell = new GuiltBell();
        String text = "plain tin 4 0;maid copper 3 1;ask 7 0;";
        check(page.contains("String text = \"" + text + "\";"), "README.md has the text " + text);
        for (int i = 0; i < text.length(); i++) bell.feed(text.charAt(i));
        told("bell.text()", bell.text(), 3);
        told("bell.bell(0)", bell.bell(0), 10);
        told("bell.bell(1)", bell.bell(1), 8);
        told("bell.least(1)", bell.least(1), 3);
        told("bell.add(1, 3)", bell.add(1, 3), 0);
        told("bell.bell(3)", bell.bell(3), 1);
        told("bell.sheet(0, 1, 4)", bell.sheet(0, 1, 4), 1);
        bell.lay(0, 0, 1);
        bell.lay(0, 1, 5);
        told("bell.read(0, 1, 0, 1)", bell.read(0, 1, 0, 1), 1);
        check(bell.giver(1, 1) == 5, "GIVER 1 has GUILT 5 behind it");
        told("bell.read(0, 2, 0, 1)", bell.read(0, 2, 0, 1), 0);
        told("bell.torn()", bell.torn(), 3);
    }

    /** Each line that README.md's table shows, in one text. */
    private static void lines() {
        GuiltBell bell = new GuiltBell();
        String[] lines = {"plain tin 4 0;", "sorry 1;", "hold 0 2;", "add copper 6;", "ask 7 2;"};
        for (String line : lines) check(page.stream().anyMatch(s -> s.startsWith("| `" + line + "`")), "README.md shows " + line);
        String text = String.join("", lines) + "maid iron 1 1;";
        for (int i = 0; i < text.length(); i++) bell.feed(text.charAt(i));
        check(bell.text() == 6, "the lines that README.md shows are a text");
    }

    private static void namesAll() throws Exception {
        String whole = String.join("\n", page);
        for (Method m : GuiltBell.class.getDeclaredMethods()) {
            if (!Modifier.isPublic(m.getModifiers())) continue;
            check(whole.contains("`" + m.getName() + "`"), "README.md says what " + m.getName() + " is for");
        }
        try (var tests = Files.list(Path.of("src/test/java"))) {
            tests.forEach(t -> check(whole.contains("`src/test/java/" + t.getFileName() + "`"), "README.md speaks of " + t));
        }
        check(whole.contains("`.ci/run`"), "README.md says how the tests are run");
    }

    public static void main(String[] args) throws Exception {
        page = Files.readAllLines(Path.of("README.md"));
        examples();
        lines();
        namesAll();
        System.out.println(wrong == 0 ? "README.md says what is so" : wrong + " things are not so");
        if (wrong != 0) System.exit(1);
    }
}
