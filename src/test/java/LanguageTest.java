import java.lang.reflect.Constructor;
import java.lang.reflect.Field;
import java.lang.reflect.Method;
import java.lang.reflect.Modifier;
import java.nio.file.Files;
import java.nio.file.Path;
import java.util.ArrayList;
import java.util.HashSet;
import java.util.List;
import java.util.Set;
import java.util.regex.Matcher;
import java.util.regex.Pattern;

/** What of LANGUAGE.md can be looked up in the source and in the compiled classes. Run at the project's root. */
final class LanguageTest {
    private static final String SOURCE = "src/main/java/NextToItsDebtor.java";
    private static final String[] FORBIDDEN = {
        "throw", "throws", "try", "catch", "finally", "synchronized", "assert", "import", "package", "protected", "Object",
        "hashCode", "toString", "volatile", "transient", "native", "float", "double", "System\\.(?!arraycopy\\()", "Thread",
        "Exception", "Random", "Arrays", "var", "yield", "strictfp", "\\w+Exact",
    };

    private static final List<String> faults = new ArrayList<>();
    private static int checks = 0;

    public static void main(String[] args) throws Exception {
        String code = bare(Files.readString(Path.of(SOURCE)));
        for (String word : FORBIDDEN) {
            check(!Pattern.compile("\\b" + word + "\\b".repeat(word.endsWith(")") ? 0 : 1)).matcher(code).find(), "the word " + word);
        }
        check(!code.contains("->") && !code.contains("::"), "no lambda, no method reference");
        check(!code.contains("+ \"\"") && !code.contains("/*"), "what was left out of the source is left out");
        checkLibrary(code);
        checkLengths(code);
        checkFace();
        List<Class<?>> classes = new ArrayList<>(List.of(NextToItsDebtor.class.getDeclaredClasses()));
        check(classes.size() <= 11, "some twelve classes");
        for (Class<?> c : classes) {
            check(Modifier.isStatic(c.getModifiers()) && c.getDeclaredClasses().length == 0, c + " is static, with none inside");
            check(!Modifier.isPublic(c.getModifiers()), c + " isn't public");
        }
        classes.add(NextToItsDebtor.class);
        for (Class<?> c : classes) {
            checkMembers(c);
        }
        checkCalls(classes);
        faults.forEach(f -> System.out.println("against LANGUAGE.md: " + f));
        System.out.println("LanguageTest: " + checks + " checks, " + faults.size() + " faults");
        System.exit(faults.isEmpty() ? 0 : 1);
    }

    private static void check(boolean holds, String rule) {
        checks++;
        if (!holds) {
            faults.add(rule);
        }
    }

    /** The source without comments and without what stands in texts and signs. */
    private static String bare(String source) {
        return source.replaceAll("(?s)/\\*.*?\\*/", " ").replaceAll("//[^\n]*", " ")
            .replaceAll("\"[^\"\n]*\"", "\"\"").replaceAll("'[^'\n]'", "' '");
    }

    /** Every static function that is called on a library's class is one of those that are listed. */
    private static void checkLibrary(String code) {
        Matcher m = Pattern.compile("\\b(Math|Integer|Long|System|String|StringBuilder|List|ArrayList)\\.(\\w+)").matcher(code);
        Set<String> listed = Set.of("Math.min", "Math.max", "Math.abs", "Integer.bitCount", "Long.bitCount", "System.arraycopy");
        while (m.find()) {
            check(listed.contains(m.group()), m.group() + " is listed");
        }
    }

    /** Methods of at most sixty lines, told by the braces at a member's depth. */
    private static void checkLengths(String code) {
        String[] lines = code.split("\n");
        int depth = 0;
        int begun = 0;
        int body = -1;
        for (int i = 0; i < lines.length; i++) {
            if (body < 0 && lines[i].matches(".*\\)\\s*\\{\\s*") && !lines[i].contains("class ")) {
                body = depth;
                begun = i;
            }
            for (char sign : lines[i].toCharArray()) {
                depth += sign == '{' ? 1 : sign == '}' ? -1 : 0;
            }
            if (body >= 0 && depth <= body) {
                check(i - begun <= 60, "a method of " + (i - begun + 1) + " lines at line " + (begun + 1));
                body = -1;
            }
        }
        check(depth == 0, "braces are paired");
    }

    private static void checkFace() {
        Class<?> c = NextToItsDebtor.class;
        check(Modifier.isPublic(c.getModifiers()) && Modifier.isFinal(c.getModifiers()), "public and final");
        check(c.getSuperclass() == Object.class && c.getInterfaces().length == 0, "nothing above it");
        int methods = 0;
        Set<String> names = new HashSet<>();
        for (Method m : c.getDeclaredMethods()) {
            check(Modifier.isPublic(m.getModifiers()) || Modifier.isPrivate(m.getModifiers()), m + " is public or private");
            if (Modifier.isPublic(m.getModifiers())) {
                methods++;
                names.add(m.getName());
            }
        }
        check(methods == 50, "50 public methods");
        for (Field f : c.getDeclaredFields()) {
            check(Modifier.isPrivate(f.getModifiers()) || f.getName().equals("NONE"), f + " is private");
        }
        check(c.getConstructors().length == 1 && c.getDeclaredConstructors().length == 1, "one constructor");
        List<Class<?>> all = new ArrayList<>(List.of(c.getDeclaredClasses()));
        all.add(c);
        for (Class<?> each : all) {
            for (Method m : each.getDeclaredMethods()) {
                check(Modifier.isPublic(m.getModifiers()) || !names.contains(m.getName()), m + " bears no public one's name");
            }
        }
    }

    private static void checkMembers(Class<?> c) {
        int fields = 0;
        for (Field f : c.getDeclaredFields()) {
            Class<?> type = f.getType();
            if (Modifier.isStatic(f.getModifiers())) {
                check(Modifier.isFinal(f.getModifiers()), f + " is final");
                check(type == int.class || type == long.class || type == boolean.class || type == int[].class, f + " is a constant");
            } else {
                fields++;
            }
        }
        check(fields <= 20, c + " has some twenty fields");
        for (Method m : c.getDeclaredMethods()) {
            check(m.getParameterCount() <= 7, m + " takes seven at most");
            check(!m.isSynthetic(), m + " is written out");
        }
        for (Constructor<?> k : c.getDeclaredConstructors()) {
            check(k.getParameterCount() == 0, k + " takes nothing, so nothing of an object in the making is handed out");
        }
    }

    private static void checkCalls(List<Class<?>> classes) throws Exception {
        LanguageCalls calls = LanguageCalls.of(classes);
        if (calls == null) {
            System.out.println("LanguageTest: without javap it isn't looked up how deep calls go");
            return;
        }
        for (String method : calls.methods()) {
            List<String> chain = calls.longest(method);
            check(chain.size() <= 8, "calls go at most eight deep: " + chain);
            check(!calls.comesBack(method), method + " comes back to itself by no other one");
            check(method.endsWith("init>") || !calls.makers().contains(method), method + " makes nothing: only constructors do");
        }
        // Were nothing found, nothing above would have been looked at.
        check(calls.methods().size() > 100 && calls.makers().contains("NextToItsDebtor.<init>"), "javap's words were read");
        check(calls.longest("NextToItsDebtor.garden").size() > 5, "javap's calls were read");
    }
}
