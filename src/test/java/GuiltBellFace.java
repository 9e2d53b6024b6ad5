import java.lang.reflect.Constructor;
import java.lang.reflect.Field;
import java.lang.reflect.Method;
import java.lang.reflect.Modifier;
import java.nio.file.Files;
import java.nio.file.Path;
import java.util.Arrays;
import java.util.Set;
import java.util.TreeSet;
import java.util.regex.Matcher;
import java.util.regex.Pattern;

/** The public face is the document's, and the source keeps to what of LANGUAGE.md can be seen by a glance at its words. */
public final class GuiltBellFace {
    private static final Path SOURCE = Path.of("src/main/java/GuiltBell.java");
    private static final String[] FACE = {"int feed(int)", "int end(int)", "int text()", "int fault()", "int rule(int)",
        "int giver(int,int)", "int metal(int,int)", "int bell(int)", "int tap(int)", "int alter(int,int,int)",
        "int add(int,int)", "int ask(int,int)", "int ring(int)", "int mine(int)", "int least(int)", "int casts(int)",
        "int spare(int)", "int without(int)", "int lasts()", "int swap()", "long mean(int,int)", "long luck(int,int)",
        "int see(int,int)", "int forget(int)", "int fits(int)", "int range(int,int)", "int next(int)",
        "int drift(int,int,int)", "int keep(int)", "int back(int)", "int sheet(int,int,int)", "int lay(int,int,int)",
        "int read(int,int,int,int)", "int torn()", "int count(int)"};
    private static final String[] RULED_OUT = {"throw", "throws", "try", "catch", "synchronized", "assert", "package", "protected",
        "volatile", "transient", "native", "->", "::", "double", "float", "Object", "Exact", "Thread", "Random", "hashCode",
        "toString", "goto", "@"};
    private static int wrong = 0;

    private static void check(boolean holds, String what) {
        if (holds) return;
        wrong++;
        System.out.println("not so: " + what);
    }

    private static String told(Method m) {
        StringBuilder s = new StringBuilder(m.getReturnType().getSimpleName()).append(' ').append(m.getName()).append('(');
        for (int i = 0; i < m.getParameterCount(); i++) {
            s.append(i == 0 ? "" : ",").append(m.getParameterTypes()[i].getSimpleName());
        }
        return s.append(')').toString();
    }

    private static void face() throws Exception {
        Class<?> c = GuiltBell.class;
        check(Modifier.isPublic(c.getModifiers()) && Modifier.isFinal(c.getModifiers()), "the class is public and final");
        Constructor<?>[] made = c.getDeclaredConstructors();
        check(made.length == 1 && Modifier.isPublic(made[0].getModifiers()) && made[0].getParameterCount() == 0, "one constructor");
        Set<String> open = new TreeSet<>();
        Set<String> openNames = new TreeSet<>();
        for (Method m : c.getDeclaredMethods()) {
            if (Modifier.isPrivate(m.getModifiers()) || m.isSynthetic()) continue;
            check(m.getModifiers() == Modifier.PUBLIC, told(m) + " is public and nothing else");
            open.add(told(m));
            openNames.add(m.getName());
        }
        check(open.equals(new TreeSet<>(Arrays.asList(FACE))), "the methods are the document's: " + open);
        for (Method m : c.getDeclaredMethods()) {
            check(!Modifier.isPrivate(m.getModifiers()) || !openNames.contains(m.getName()), m.getName() + " is not private too");
        }
        for (Class<?> inside : c.getDeclaredClasses()) {
            check(Modifier.isStatic(inside.getModifiers()), inside + " is static");
            for (Method m : inside.getDeclaredMethods()) check(!openNames.contains(m.getName()), m + " bears a name of its own");
            check(inside.getDeclaredFields().length <= 20, inside + " has few fields");
        }
        check(c.getDeclaredClasses().length <= 12, "few classes");
        String[] names = {"BAD", "STATE", "FULL", "NONE"};
        int seen = 0;
        for (Field f : c.getDeclaredFields()) {
            if (Modifier.isStatic(f.getModifiers())) check(Modifier.isFinal(f.getModifiers()), f + " is final");
            if (Modifier.isPrivate(f.getModifiers())) continue;
            seen++;
            int at = Arrays.asList(names).indexOf(f.getName());
            check(at >= 0 && Modifier.isPublic(f.getModifiers()) && f.getInt(null) == -1 - at, f + " is of the document");
        }
        check(seen == 4, "four constants");
    }

    private static void words() throws Exception {
        String whole = Files.readString(SOURCE);
        String bare = whole.replaceAll("(?s)/\\*.*?\\*/", " ").replaceAll("//[^\n]*", " ");
        for (String word : RULED_OUT) {
            String pattern = Character.isLetter(word.charAt(0)) ? "\\b" + word + "\\b" : Pattern.quote(word);
            check(!Pattern.compile(pattern).matcher(bare).find(), "no '" + word + "' in the source");
        }
        Matcher imports = Pattern.compile("import ([^;]*);").matcher(bare);
        while (imports.find()) check(imports.group(1).equals("java.util.Arrays"), "no import of " + imports.group(1));
        for (char sign : whole.toCharArray()) {
            if (sign > 126 || sign < 32 && sign != '\n') {
                check(false, "plain signs alone");
                break;
            }
        }
    }

    /** From a method's head to its closing line, which stands as far in as the head. */
    private static void lengths() throws Exception {
        String[] lines = Files.readString(SOURCE).split("\n");
        for (int i = 0; i < lines.length; i++) {
            Matcher head = Pattern.compile("^( {4}| {8})(?!private static final class)\\S.*\\(.*\\) \\{$").matcher(lines[i]);
            if (!head.matches()) continue;
            int end = i;
            while (end < lines.length && !lines[end].equals(head.group(1) + "}")) end++;
            check(end - i <= 60, "a short method at line " + (i + 1));
            String between = lines[i].substring(lines[i].indexOf('('), lines[i].lastIndexOf(')'));
            check(between.split(",").length <= 7, "few parameters at line " + (i + 1));
        }
    }

    public static void main(String[] args) throws Exception {
        face();
        words();
        lengths();
        System.out.println(wrong == 0 ? "the face and the source are as due" : wrong + " things are not as due");
        if (wrong != 0) System.exit(1);
    }
}
