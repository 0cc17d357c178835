import java.io.IOException;
import java.lang.reflect.Constructor;
import java.lang.reflect.Field;
import java.lang.reflect.Method;
import java.lang.reflect.Modifier;
import java.nio.file.Files;
import java.nio.file.Path;
import java.util.ArrayList;
import java.util.List;
import java.util.Set;
import java.util.TreeSet;
import java.util.regex.Matcher;
import java.util.regex.Pattern;

/** What can be looked at of LANGUAGE.md: the face by reflection, the rest in the source's own words. */
public final class LanguageTest {
    private static final String[] FACE = {
        "lay(int,int,int,int)", "take(int)", "armful(int,int)", "as(int,int)", "become(int,int)", "light(int)",
        "fork(int,int)", "pour(int,int)", "set(int,int)", "feed(long,int)", "text(int)", "untell(int)", "minutes(int)",
        "gusts(int)", "seed(int)", "washing(int,int,int)", "garden(int,int)", "heap(int)", "may()", "then(int,int)",
        "gardenThen(int,int,int)", "hour(int,int)", "spot(int)", "out(int)", "catches(int,int)", "reach(int)",
        "report(int,int)", "suspects()", "liar()", "voice(int,int,int)", "body(int)", "sheet(int,int,int)",
        "put(int,int,int)", "move(int,int,int,int,int)", "armfuls(int)", "image()", "restore()", "tell(int)",
        "check(int)", "count(int)", "told(int)"};
    private static final String[] FORBIDDEN = {"throw", "throws", "try", "catch", "synchronized", "assert", "import",
        "package", "Object", "Exception", "Thread", "System.out", "Random", "lambda", "var", "protected", "native",
        "volatile", "transient", "finally", "hashCode", "toString", "double", "float"};
    private static int wrong = 0;

    private static void need(boolean good, String what) {
        if (!good) {
            wrong++;
            System.out.println(what);
        }
    }

    private static String signature(Method m) {
        List<String> types = new ArrayList<>();
        for (Class<?> t : m.getParameterTypes()) types.add(t.getName());
        return m.getName() + "(" + String.join(",", types) + ")";
    }

    private static void face() {
        Class<?> c = SmokyHeap.class;
        need(Modifier.isPublic(c.getModifiers()) && Modifier.isFinal(c.getModifiers()), "the class is not public and final");
        Set<String> wanted = new TreeSet<>(List.of(FACE));
        Set<String> there = new TreeSet<>();
        for (Method m : c.getDeclaredMethods()) {
            if (Modifier.isPrivate(m.getModifiers())) continue;
            need(Modifier.isPublic(m.getModifiers()) && !Modifier.isStatic(m.getModifiers()) && m.getReturnType() == int.class,
                    "not of the face: " + m);
            there.add(signature(m));
        }
        need(there.equals(wanted), "the face is " + there);
        for (Field f : c.getDeclaredFields()) need(Modifier.isPrivate(f.getModifiers()), "not private: " + f);
        Constructor<?>[] made = c.getDeclaredConstructors();
        need(made.length == 1 && Modifier.isPublic(made[0].getModifiers()) && made[0].getParameterCount() == 0,
                "the constructors are not the one of the face");
    }

    private static void classes() {
        Set<String> names = new TreeSet<>();
        for (String s : FACE) names.add(s.substring(0, s.indexOf('(')));
        List<Class<?>> all = new ArrayList<>(List.of(SmokyHeap.class.getDeclaredClasses()));
        need(all.size() < 12, all.size() + " classes inside");
        all.add(SmokyHeap.class);
        for (Class<?> c : all) {
            boolean inside = c != SmokyHeap.class;
            need(!inside || Modifier.isStatic(c.getModifiers()), c + " is not static");
            int fields = 0;
            for (Field f : c.getDeclaredFields()) {
                if (Modifier.isStatic(f.getModifiers())) {
                    need(Modifier.isFinal(f.getModifiers()), f + " is static and not final");
                } else {
                    fields++;
                }
            }
            need(fields <= 20, c + " has " + fields + " fields");
            for (Method m : c.getDeclaredMethods()) {
                need(m.getParameterCount() <= 7, m + " has too many parameters");
                need(!names.contains(m.getName()) || !inside, m + " bears the name of a public one");
                need(!names.contains(m.getName()) || !Modifier.isPrivate(m.getModifiers()), m + " bears the name of a public one");
                need(!m.isSynthetic(), m + " is not written out");
            }
        }
    }

    /** The source without comments and texts. */
    private static String bare(String source) {
        return source.replaceAll("(?s)/\\*.*?\\*/", "").replaceAll("//[^\n]*", "").replaceAll("\"[^\"\n]*\"", "\"\"");
    }

    private static void words(String source) {
        for (String word : FORBIDDEN) {
            need(!Pattern.compile("(?<![A-Za-z0-9_])" + Pattern.quote(word) + "(?![A-Za-z0-9_])").matcher(source).find(),
                    "the source has '" + word + "'");
        }
        need(!source.contains("->") && !source.contains("::"), "the source has a lambda or a method reference");
        need(!source.contains("Exact("), "the source has an .. Exact function");
        need(!Pattern.compile("static\\s*\\{").matcher(source).find(), "the source has a static initialiser");
        need(!Pattern.compile("\"\\s*\\+|\\+\\s*\"").matcher(source).find(), "the source joins texts by +");
        need(!Pattern.compile("while\\s*\\(\\s*true|for\\s*\\(\\s*;").matcher(source).find(), "a loop without an end");
        Matcher m = Pattern.compile("\\bwhile\\b").matcher(source);
        need(!m.find(), "the source has while: a counter against a bound is seen more easily");
        for (char c : source.toCharArray()) need(c < 128, "a sign above 127");
    }

    private static void lengths(String source) {
        int begun = -1;
        String head = "";
        String[] lines = source.split("\n", -1);
        for (int k = 0; k < lines.length; k++) {
            if (begun < 0 && lines[k].matches("( {4}| {8})[A-Za-z].*\\) \\{") && !lines[k].contains(" class ")) {
                begun = k;
                head = lines[k];
            }
            boolean ends = lines[k].equals(head.startsWith("        ") ? "        }" : "    }");
            if (begun >= 0 && ends) {
                need(k - begun < 62, (k - begun) + " lines: " + head.trim());
                begun = -1;
            }
        }
    }

    public static void main(String[] args) throws IOException {
        String source = Files.readString(Path.of("src/main/java/SmokyHeap.java"));
        face();
        classes();
        words(bare(source));
        lengths(bare(source));
        System.out.println(wrong == 0 ? "the class keeps to what is looked at" : wrong + " things are outside the language");
        if (wrong != 0) System.exit(1);
    }
}
