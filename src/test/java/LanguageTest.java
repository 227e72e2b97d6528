import java.lang.reflect.Constructor;
import java.lang.reflect.Field;
import java.lang.reflect.Member;
import java.lang.reflect.Method;
import java.lang.reflect.Modifier;
import java.nio.file.Files;
import java.nio.file.Path;
import java.util.ArrayList;
import java.util.Arrays;
import java.util.HashSet;
import java.util.List;
import java.util.Set;
import java.util.TreeSet;
import java.util.regex.Matcher;
import java.util.regex.Pattern;

/** The face of the document, and the rules of LANGUAGE.md that can be read off the text. Run from the project's root. */
public final class LanguageTest {
    private static final String[] FACE = {
        "int feed(long, long, long)", "int flock()", "int beast(int, int)", "int liking(int, int)", "int place(int)",
        "boolean away(int, boolean)", "int evening(int)", "int settled()", "int beside(int, int)", "int friends(int)",
        "int seen(int, boolean)", "int heard(int, int)", "int uneasy(int, int, boolean)", "boolean clear()", "int fits()",
        "int fit(int)", "int sure(boolean)", "int looks(int)", "int odds(int, int, int)", "long search(int, int)",
        "int parted(int, int, int, int)", "boolean undo()", "boolean mark(int, boolean)", "int count(int)"};
    private static int wrong;

    private static void fail(String what) {
        wrong++;
        System.out.println(what);
    }

    private static String signature(Method m) {
        StringBuilder s = new StringBuilder(m.getReturnType() + " " + m.getName() + "(");
        for (Class<?> p : m.getParameterTypes()) s.append(s.charAt(s.length() - 1) == '(' ? "" : ", ").append(p);
        return s.append(")").toString();
    }

    private static boolean isHidden(Member m) {
        return m.isSynthetic() || Modifier.isPrivate(m.getModifiers());
    }

    private static void face() {
        Class<?> c = FlockGaps.class;
        if (!Modifier.isFinal(c.getModifiers()) || !Modifier.isPublic(c.getModifiers())) fail("the class is public and final");
        Set<String> seen = new TreeSet<>();
        Set<String> names = new TreeSet<>();
        for (Method m : c.getDeclaredMethods()) {
            if (Modifier.isPublic(m.getModifiers())) {
                seen.add(signature(m));
                names.add(m.getName());
            } else if (!isHidden(m)) {
                fail("not private: " + m);
            }
        }
        if (!seen.equals(new TreeSet<>(Arrays.asList(FACE)))) fail("the face is " + seen);
        for (Method m : c.getDeclaredMethods()) {
            if (!Modifier.isPublic(m.getModifiers()) && names.contains(m.getName())) fail("bears a public name: " + m);
        }
        for (Field f : c.getDeclaredFields()) {
            if (Modifier.isPublic(f.getModifiers()) ? !f.getName().equals("NONE") : !isHidden(f)) fail("not of the face: " + f);
        }
        Constructor<?>[] made = c.getDeclaredConstructors();
        if (made.length != 1 || !Modifier.isPublic(made[0].getModifiers()) || made[0].getParameterCount() != 0) fail("one public constructor");
        if (c.getDeclaredClasses().length > 12) fail("too many classes");
        for (Class<?> inside : c.getDeclaredClasses()) inside(inside, names);
    }

    private static void inside(Class<?> c, Set<String> names) {
        if (!Modifier.isStatic(c.getModifiers())) fail("not static: " + c);
        int fields = 0;
        for (Field f : c.getDeclaredFields()) {
            fields += Modifier.isStatic(f.getModifiers()) ? 0 : 1;
            if (Modifier.isStatic(f.getModifiers()) && !Modifier.isFinal(f.getModifiers())) fail("static state: " + f);
        }
        if (fields > 20) fail("too many fields: " + c);
        for (Method m : c.getDeclaredMethods()) {
            if (names.contains(m.getName())) fail("bears a public name: " + m);
            if (m.getParameterCount() > 7) fail("too many parameters: " + m);
        }
    }

    /** The text without comments; S stands for each constant text. */
    private static String bare() throws Exception {
        String text = Files.readString(Path.of("src/main/java/FlockGaps.java"));
        return text.replaceAll("(?s)/\\*.*?\\*/", "").replaceAll("\"[^\"\n]*\"", "S").replaceAll("//[^\n]*", "");
    }

    private static void text() throws Exception {
        String text = Files.readString(Path.of("src/main/java/FlockGaps.java"));
        for (char sign : text.toCharArray()) if (sign > 126) fail("a sign beyond 126");
        String bare = bare();
        String[] forbidden = {"\\bthrow\\b", "\\bthrows\\b", "\\btry\\b", "\\bcatch\\b", "\\bsynchronized\\b", "\\bassert\\b", "->", "::",
            "\\bpackage\\b", "\\bstatic \\{", "Exact\\b", "\\bObject\\b", "\\bhashCode\\b", "\\bequals\\b", "\\bvar\\b", "while \\(true", "\\bS \\+|\\+ S\\b"};
        for (String f : forbidden) {
            Matcher m = Pattern.compile(f).matcher(bare);
            if (m.find()) fail("not in the language: " + m.group());
        }
        Matcher imports = Pattern.compile("(?m)^import (.*);").matcher(bare);
        while (imports.find()) if (!imports.group(1).equals("java.util.Arrays")) fail("import " + imports.group(1));
        List<String> lines = new ArrayList<>(bare.lines().toList());
        for (int i = 0; i < lines.size(); i++) {
            Matcher m = Pattern.compile("^( +)[^ ].*\\) \\{$").matcher(lines.get(i));
            if (!m.find() || Pattern.compile("\\b(if|for|while|switch|else)\\b").matcher(lines.get(i)).find()) continue;
            int end = i;
            while (!lines.get(end).equals(m.group(1) + "}")) end++;
            if (end - i > 60) fail("a long method: " + lines.get(i));
        }
    }

    /** A method of the text: its class, its name, whether it is private, and what stands in it. */
    private record Written(String owner, String name, boolean hidden, String body) { }

    private static List<Written> methods(String bare) {
        List<Written> all = new ArrayList<>();
        List<String> lines = bare.lines().toList();
        String owner = "FlockGaps";
        for (int i = 0; i < lines.size(); i++) {
            Matcher inside = Pattern.compile("^    private static .*class (\\w+)").matcher(lines.get(i));
            if (inside.find()) owner = inside.group(1);
            Matcher m = Pattern.compile("^( {4}| {8})((?:\\w+ )*)[\\w\\[\\]]+ (\\w+)\\([^)]*\\) \\{$").matcher(lines.get(i));
            if (!m.find() || Set.of("if", "for", "while", "switch").contains(m.group(3))) continue;
            StringBuilder body = new StringBuilder();
            while (!lines.get(++i).equals(m.group(1) + "}")) body.append(lines.get(i)).append('\n');
            all.add(new Written(owner, m.group(3), m.group(2).contains("private"), body.toString()));
        }
        return all;
    }

    /** Those that a method may call, by their names: more than it does, never fewer. */
    private static List<Written> calledBy(Written from, List<Written> all) {
        List<Written> called = new ArrayList<>();
        for (Written to : all) {
            String call = to.owner().equals(from.owner()) ? "\\b" : "\\.";
            if (Pattern.compile(call + to.name() + "\\(").matcher(from.body()).find()) called.add(to);
        }
        return called;
    }

    private static void reach(Written from, List<Written> all, Set<Written> reached) {
        for (Written to : calledBy(from, all)) if (reached.add(to)) reach(to, all, reached);
    }

    /** The longest chain of calls from here on, none of them twice; a chain of recursion counts each method once. */
    private static int chain(Written from, List<Written> all, List<Written> open) {
        int most = 0;
        open.add(from);
        for (Written to : calledBy(from, all)) if (!open.contains(to)) most = Math.max(most, chain(to, all, open));
        open.remove(open.size() - 1);
        return most + 1;
    }

    /** Rules 8 and 11: "private methods that call one another", "calls that are no recursion go at most eight deep". */
    private static void calls() throws Exception {
        String bare = bare();
        List<Written> all = methods(bare);
        if (all.size() < FACE.length * 2) fail("the methods are not found in the text: " + all.size());
        for (Written m : all) {
            Set<Written> reached = new HashSet<>();
            reach(m, all, reached);
            if (reached.contains(m) && !m.hidden()) fail("calls itself and is not private: " + m.owner() + "." + m.name());
            int deep = chain(m, all, new ArrayList<>());
            if (deep > 8) fail("calls go " + deep + " deep from " + m.owner() + "." + m.name());
        }
    }

    /** Rule 4: "The library: only what stands here"; of it the class uses this much. */
    private static void library() throws Exception {
        String bare = bare();
        Set<String> own = new TreeSet<>(Set.of("if", "for", "while", "switch"));
        for (Written m : methods(bare)) own.add(m.name());
        for (Class<?> inside : FlockGaps.class.getDeclaredClasses()) own.add(inside.getSimpleName());
        own.add("FlockGaps");
        Set<String> listed = Set.of("Arrays.fill", "System.arraycopy", "Integer.bitCount", "Math.abs", "Math.max", "Math.min",
                "WORDS.length", "WORDS.charAt", "S.indexOf");
        Matcher call = Pattern.compile("((?:\\w+\\.)?(\\w+))\\(").matcher(bare);
        while (call.find()) {
            if (!listed.contains(call.group(1)) && !own.contains(call.group(2))) fail("not in the library: " + call.group(1));
        }
    }

    public static void main(String[] args) throws Exception {
        face();
        text();
        calls();
        library();
        System.out.println(wrong == 0 ? "the face and the language are as told" : wrong + " rules are broken");
        if (wrong != 0) System.exit(1);
    }
}
