import java.io.PrintWriter;
import java.io.StringWriter;
import java.nio.file.Path;
import java.util.ArrayList;
import java.util.HashSet;
import java.util.List;
import java.util.Map;
import java.util.Set;
import java.util.TreeMap;
import java.util.TreeSet;
import java.util.regex.Matcher;
import java.util.regex.Pattern;
import java.util.spi.ToolProvider;

/** Which methods call which, and which make objects or arrays: read from the compiled classes by the JDK's javap. */
final class LanguageCalls {
    private static final Pattern CLASS = Pattern.compile("(?:(?:public|private|static|final|abstract) )*class ([\\w$]+).*\\{");
    private static final Pattern METHOD = Pattern.compile("  (?:(?:public|private|static|final) )*(?:[\\w$.\\[\\]]+ )?([\\w$]+)\\(.*\\);");
    private static final Pattern CALL = Pattern.compile(".* invoke\\w+ .*// Method ([^:]+):.*");
    private static final Pattern MAKING = Pattern.compile("\\s*\\d+: (new|newarray|anewarray|multianewarray)\\b.*");

    private final Map<String, Set<String>> calls = new TreeMap<>();
    private final Set<String> makers = new TreeSet<>();

    /** What javap tells of the classes, or null where a JDK has none. */
    static LanguageCalls of(List<Class<?>> classes) throws Exception {
        ToolProvider javap = ToolProvider.findFirst("javap").orElse(null);
        if (javap == null) {
            return null;
        }
        Path place = Path.of(classes.get(0).getProtectionDomain().getCodeSource().getLocation().toURI());
        List<String> words = new ArrayList<>(List.of("-p", "-c", "-cp", place.toString()));
        classes.forEach(c -> words.add(c.getName()));
        StringWriter told = new StringWriter();
        PrintWriter out = new PrintWriter(told);
        int code = javap.run(out, out, words.toArray(new String[0]));
        out.flush();
        if (code != 0) {
            throw new IllegalStateException("javap ended with " + code + ": " + told);
        }
        LanguageCalls read = new LanguageCalls();
        read.read(told.toString());
        return read;
    }

    private void read(String told) {
        String owner = "";
        String method = "";
        for (String line : told.split("\n")) {
            Matcher m = CLASS.matcher(line);
            if (m.matches()) {
                owner = m.group(1);
                continue;
            }
            m = METHOD.matcher(line);
            if (m.matches()) {
                method = owner + "." + (m.group(1).equals(owner) ? "<init>" : m.group(1));
                calls.computeIfAbsent(method, k -> new TreeSet<>());
            } else if (line.equals("  static {};")) {
                method = owner + ".<clinit>";
            } else if (MAKING.matcher(line).matches()) {
                makers.add(method);
            } else if ((m = CALL.matcher(line)).matches()) {
                String called = m.group(1).replace("\"", "");
                calls.computeIfAbsent(method, k -> new TreeSet<>()).add(called.contains(".") ? called : owner + "." + called);
            }
        }
    }

    Set<String> methods() {
        return calls.keySet();
    }

    Set<String> makers() {
        return makers;
    }

    /** The longest chain of calls from a method on, each method in it once. */
    List<String> longest(String method) {
        return longest(method, new HashSet<>());
    }

    private List<String> longest(String method, Set<String> open) {
        List<String> best = new ArrayList<>();
        if (open.add(method)) {
            for (String called : calls.getOrDefault(method, Set.of())) {
                List<String> chain = longest(called, open);
                best = chain.size() > best.size() ? chain : best;
            }
            open.remove(method);
            best = new ArrayList<>(best);
            best.add(0, method);
        }
        return best;
    }

    /** Whether a method can come to call itself by way of another one. */
    boolean comesBack(String method) {
        Set<String> found = new TreeSet<>(calls.getOrDefault(method, Set.of()));
        found.remove(method);
        for (int size = -1; size != found.size();) {
            size = found.size();
            for (String each : new ArrayList<>(found)) {
                found.addAll(calls.getOrDefault(each, Set.of()));
            }
        }
        return found.contains(method);
    }
}
