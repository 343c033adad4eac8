import java.io.PrintWriter;
import java.io.StringWriter;
import java.nio.file.Path;
import java.util.ArrayList;
import java.util.LinkedHashMap;
import java.util.LinkedHashSet;
import java.util.List;
import java.util.Map;
import java.util.Set;
import java.util.regex.Matcher;
import java.util.regex.Pattern;
import java.util.spi.ToolProvider;

/** The rules of LANGUAGE.md that show in the compiled class: which library it calls, how deep calls go, how long methods are. */
public final class LanguageTest {
    private static final int MOST_DEEP = 8, MOST_LINES = 60;
    // Boxing is how a list holds a number; Object's constructor is called by every class's own.
    private static final Pattern ALLOWED = Pattern.compile(
        "java/lang/Object\\.<init>|java/lang/Integer\\.(valueOf|intValue)"
        + "|java/lang/String\\.(length|charAt|isEmpty|equals|indexOf|substring|toCharArray|<init>)"
        + "|java/lang/StringBuilder\\.(<init>|append|charAt|setCharAt|setLength|deleteCharAt|reverse|length|toString)"
        + "|java/util/(ArrayList|List)\\.(<init>|add|get|set|remove|size|isEmpty|clear)"
        + "|java/lang/(Integer|Long|Math)\\.(compare|max|min|abs|bitCount|floorDiv|floorMod|signum"
        + "|sum|numberOfLeadingZeros|numberOfTrailingZeros|highestOneBit|lowestOneBit|rotateLeft|rotateRight|reverse)"
        + "|java/lang/System\\.arraycopy|java/util/Arrays\\.(copyOf|copyOfRange|fill)");
    private static final Pattern FORBIDDEN = Pattern.compile(": (invokedynamic|athrow|monitorenter|monitorexit)\\b");
    private static final Pattern HEAD = Pattern.compile("^  (?! )(?:[\\w$\\[\\]<>., ]+ )?([\\w$]+)\\([^)]*\\);$");
    private static final Pattern CALL = Pattern.compile("(invoke\\w+) .*// (?:Interface)?Method (\\S+):(\\(\\S*)$");
    private static final Pattern TYPE = Pattern.compile("^(?:public |final |abstract )*class (\\S+?)(?: extends (\\S+?))? \\{$");
    private static final Pattern LINE = Pattern.compile("^ +line (\\d+): \\d+$");

    private final Map<String, String> above = new LinkedHashMap<>();
    private final Map<String, Set<String>> calls = new LinkedHashMap<>();
    private final Map<String, Set<Integer>> lines = new LinkedHashMap<>();
    private String type = "";
    private String method = "";
    private String whole = "";

    private LanguageTest() {
    }

    public static void main(String[] args) throws Exception {
        LanguageTest test = new LanguageTest();
        for (String name : test.names()) test.readType(disassembled(name));
        is("the methods are found", test.calls.size() > 60 && test.calls.containsKey("MistHeaps.hill"));
        test.libraryIsListed();
        test.callsAreNotDeep();
        test.methodsAreShort();
        Checks.end("LanguageTest");
    }

    private static void is(String what, boolean so) {
        Checks.due(what, so ? 1 : 0, 1);
    }

    private List<String> names() {
        List<String> names = new ArrayList<>(List.of("MistHeaps"));
        for (Class<?> one : MistHeaps.class.getDeclaredClasses()) names.add(one.getName());
        return names;
    }

    private static String disassembled(String name) throws Exception {
        Path place = Path.of(MistHeaps.class.getProtectionDomain().getCodeSource().getLocation().toURI());
        StringWriter text = new StringWriter();
        ToolProvider javap = ToolProvider.findFirst("javap").orElseThrow();
        PrintWriter out = new PrintWriter(text);
        is("javap of " + name, javap.run(out, out, "-c", "-l", "-p", "-cp", place.toString(), name) == 0);
        return text.toString();
    }

    private void readType(String text) {
        for (String line : text.split("\\R")) {
            Matcher head = TYPE.matcher(line);
            if (head.find()) {
                type = head.group(1);
                above.put(type, head.group(2) == null ? "" : head.group(2));
            }
            readMethod(line);
        }
    }

    private void readMethod(String line) {
        Matcher head = HEAD.matcher(line);
        if (head.find()) begin(line, head.group(1).equals(type) ? "<init>" : head.group(1));
        if (line.equals("  static {};")) begin(line, "<clinit>");
        is(method + " leaves out what is not allowed: " + line.strip(), !FORBIDDEN.matcher(line).find());
        is(method + " catches nothing", !line.contains("Exception table"));
        Matcher call = CALL.matcher(line);
        if (call.find()) addCall(call.group(1), call.group(2).replace("\"", ""));
        Matcher number = LINE.matcher(line);
        if (number.find()) lines.get(whole).add(Integer.parseInt(number.group(1)));
    }

    private void begin(String line, String name) {
        method = type + "." + name;
        whole = type + line;
        // Methods of one name are taken together: either may be the one that is called.
        calls.computeIfAbsent(method, one -> new LinkedHashSet<>());
        lines.put(whole, new LinkedHashSet<>());
    }

    private void addCall(String how, String called) {
        String where = called.contains(".") ? "" : type + ".";
        calls.get(method).add((how.equals("invokevirtual") ? "any " : "just ") + where + called);
    }

    private void libraryIsListed() {
        for (Map.Entry<String, Set<String>> one : calls.entrySet()) {
            for (String call : one.getValue()) {
                String called = call.substring(call.indexOf(' ') + 1);
                if (called.startsWith("MistHeaps")) continue;
                is(one.getKey() + " calls " + called + ", which is listed", ALLOWED.matcher(called).matches());
            }
        }
    }

    private boolean isUnder(String one, String top) {
        for (String up = one; up != null && !up.isEmpty(); up = above.get(up)) {
            if (up.equals(top)) return true;
        }
        return false;
    }

    /** The method of that type, or of the next one above that has it. */
    private String found(String in, String name) {
        for (String up = in; up != null && !up.isEmpty(); up = above.get(up)) {
            if (calls.containsKey(up + "." + name)) return up + "." + name;
        }
        return null;
    }

    private Set<String> mayRun(String call) {
        String called = call.substring(call.indexOf(' ') + 1);
        int dot = called.lastIndexOf('.');
        String in = called.substring(0, dot);
        String name = called.substring(dot + 1);
        Set<String> all = new LinkedHashSet<>();
        for (String one : above.keySet()) {
            boolean meant = call.startsWith("any ") ? isUnder(one, in) : one.equals(in);
            if (meant && found(one, name) != null) all.add(found(one, name));
        }
        return all;
    }

    /** How many methods stand open at most, each once, so that recursion is left out. */
    private int depth(String from, Set<String> open) {
        if (!open.add(from)) return 0;
        int most = 0;
        for (String call : calls.get(from)) {
            for (String one : mayRun(call)) most = Math.max(most, depth(one, open));
        }
        open.remove(from);
        return most + 1;
    }

    private void callsAreNotDeep() {
        for (String one : calls.keySet()) {
            int depth = depth(one, new LinkedHashSet<>());
            is(one + " goes " + depth + " deep", depth <= MOST_DEEP);
        }
        is("the parser is followed", depth("MistHeaps.hill", new LinkedHashSet<>()) >= 7);
        is("the acts are followed", depth("MistHeaps.act", new LinkedHashSet<>()) >= 7);
    }

    private void methodsAreShort() {
        for (Map.Entry<String, Set<Integer>> one : lines.entrySet()) {
            int least = one.getValue().stream().mapToInt(line -> line).min().orElse(0);
            int most = one.getValue().stream().mapToInt(line -> line).max().orElse(0);
            is(one.getKey() + " has lines", least > 0);
            // The lines of a constructor go from the class's first field to its own end, so they tell nothing.
            boolean made = one.getKey().contains("static {}") || !one.getKey().matches(".* \\S+ [\\w$]+\\(.*");
            if (!made) is(one.getKey() + " is short", most - least + 2 <= MOST_LINES);
        }
    }
}
