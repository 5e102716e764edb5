import com.sun.management.ThreadMXBean;
import java.io.IOException;
import java.lang.management.ManagementFactory;
import java.nio.file.Files;
import java.nio.file.Path;
import java.util.List;
import java.util.Map;
import java.util.Set;
import java.util.TreeMap;
import java.util.TreeSet;
import java.util.regex.Matcher;
import java.util.regex.Pattern;

/** Rules of the language that can be seen in the source, and that a call makes nothing (rule 12). */
public final class RulesTest {
    private static final List<String> FORBIDDEN = List.of(
            "\\bthrow\\b", "\\bthrows\\b", "\\btry\\b", "\\bcatch\\b", "\\bsynchronized\\b", "\\bassert\\b", "->", "::",
            "\\bpackage\\b", "\\bSystem\\.(?!arraycopy\\b)", "\\bMath\\.\\w+Exact\\b", "\\bRandom\\b", "\\bThread\\b",
            "\\bObject\\b", "\\bprotected\\b", "\\bstatic\\s*\\{", "\\bvar\\b", "\\bnative\\b", "\\bvolatile\\b");

    public static void main(String[] args) throws IOException {
        String source = Files.readString(Path.of(args[0]));
        String code = source.replaceAll("(?s)/\\*.*?\\*/", " ").replaceAll("//[^\n]*", "").replaceAll("\"[^\"\n]*\"", "\"\"");
        for (String pattern : FORBIDDEN) {
            Due.isTrue("no " + pattern, !Pattern.compile(pattern).matcher(code).find());
        }
        Matcher imports = Pattern.compile("import\\s+([^;]+);").matcher(code);
        while (imports.find()) {
            Due.isTrue("import " + imports.group(1), List.of("java.util.Arrays", "java.util.ArrayList", "java.util.List").contains(imports.group(1)));
        }
        Due.isTrue("signs 1 to 127", source.chars().allMatch(sign -> sign > 0 && sign < 128));
        shortMethods(code);
        shallowCalls(code);
        callsMakeNothing();
        Due.end("RulesTest");
    }

    private static void shortMethods(String code) {
        String[] lines = code.split("\n");
        int methods = 0;
        for (int i = 0; i < lines.length; i++) {
            Matcher head = Pattern.compile("^( +)[\\w\\[\\] ]+\\(([^)]*)\\) \\{$").matcher(lines[i]);
            if (!head.matches() || lines[i].matches(" +(if|for|while|switch|else|return)\\b.*")) {
                continue;
            }
            int end = i;
            while (!lines[end].equals(head.group(1) + "}")) {
                end++;
            }
            methods++;
            Due.isTrue("sixty lines at most: " + lines[i], end - i <= 60);
            Due.isTrue("seven parameters at most: " + lines[i], head.group(2).split(",").length <= 7);
        }
        Due.isTrue("methods were found", methods > 50);
    }

    /** Rules 8 and 11. Methods are told apart by their names alone, so no depth is found too small. */
    private static void shallowCalls(String code) {
        Map<String, Set<String>> calls = new TreeMap<>();
        String[] lines = code.split("\n");
        String inside = "";
        for (String line : lines) {
            Matcher head = Pattern.compile("^ +(?!else\\b|return\\b)(?:[\\w\\[\\]]+ )*(\\w+)\\([^)]*\\) \\{$").matcher(line);
            if (head.matches() && !line.matches(" +(if|for|while|switch)\\b.*")) {
                inside = head.group(1);
                calls.putIfAbsent(inside, new TreeSet<>());
                continue;
            }
            Matcher call = Pattern.compile("\\b(\\w+)\\(").matcher(line);
            while (call.find() && !inside.isEmpty()) {
                calls.get(inside).add(call.group(1));
            }
        }
        Due.isTrue("methods were found: " + calls.size(), calls.size() > 50);
        for (String method : calls.keySet()) {
            int depth = depth(calls, method, 1);
            Due.isTrue("eight deep at most: " + method + " goes " + depth, depth <= 8);
        }
    }

    private static int depth(Map<String, Set<String>> calls, String method, int level) {
        int deepest = level;
        if (level > 8 || !calls.containsKey(method)) {
            return calls.containsKey(method) ? level : level - 1;
        }
        for (String called : calls.get(method)) {
            deepest = Math.max(deepest, depth(calls, called, level + 1));
        }
        return deepest;
    }

    private static void callsMakeNothing() {
        ThreadMXBean threads = (ThreadMXBean) ManagementFactory.getThreadMXBean();
        long id = Thread.currentThread().getId();
        HundredGongs x = new HundredGongs();
        long sum = everyCall(x);
        long before = threads.getThreadAllocatedBytes(id);
        before = threads.getThreadAllocatedBytes(id);
        sum += everyCall(x);
        long made = threads.getThreadAllocatedBytes(id) - before;
        Due.isTrue("every call once makes " + made + " bytes, " + sum, made < 1000);
    }

    private static long everyCall(HundredGongs x) {
        long sum = x.write(8243122732010531939L, 8) + x.write(12576 + (1 << 8), 2) + x.fault() + x.cloister() + x.erase();
        sum += x.gong(0, 0) + x.monk(0, 0) + x.as(0, 0) + x.strike(0) + x.go(99) + x.turn(1) + x.keep(0) + x.back(0);
        sum += x.first(0, 1) + x.who(0) + x.ends(0) + x.round(0) + x.times(0, 1, 64) + x.apart(0, 0, 1);
        sum += x.change(0, 0, 1, 0) + x.over(0, 0) + x.odds(0, 1, 5, 0);
        return sum + x.seen(0, 1) + x.asleep(0, 0) + x.forget() + x.count(0);
    }
}
