import java.util.ArrayDeque;
import java.util.ArrayList;
import java.util.Collections;
import java.util.Deque;
import java.util.HashMap;
import java.util.List;
import java.util.Map;
import java.util.Set;
import java.util.TreeSet;

/** The rules of LANGUAGE.md that the compiled class tells: what it calls, makes and throws, and how deep its calls go. */
public final class BytecodeTest {
    private static final Set<String> LIBRARY = Set.of("java/lang/Object.<init>()V", "java/lang/Math.min(II)I",
        "java/lang/Math.max(II)I", "java/lang/Math.abs(I)I");
    private static final Set<String> RECURSIVE = Set.of("takeSum", "takeProduct", "takeThing");
    private static final int DEEPEST = 8;
    private static final Map<String, ClassFile.Code> methods = new HashMap<>();
    private static final Checks c = new Checks();

    public static void main(String[] args) throws Exception {
        methods.putAll(new ClassFile(BaleTallies.class).methods);
        for (Class<?> inside : BaleTallies.class.getDeclaredClasses()) {
            methods.putAll(new ClassFile(inside).methods);
        }
        for (Map.Entry<String, ClassFile.Code> method : methods.entrySet()) {
            c.part(method.getKey());
            instructions(method.getKey(), method.getValue());
            calls(method.getValue());
        }
        c.part("depth");
        c.due("methods were found", methods.size() > 100 ? 1 : 0, 1);
        c.due("calls were found", methods.get("BaleTallies.best(I)I").calls().size() > 2 ? 1 : 0, 1);
        depth();
        c.finish();
    }

    private static void instructions(String name, ClassFile.Code code) {
        int throwing = 0;
        int making = 0;
        int casting = 0;
        for (int op : code.instructions()) {
            throwing += op == 0xBF || op == 0xC2 || op == 0xC3 || op == 0xBA ? 1 : 0;
            making += op == ClassFile.NEW || op == 0xBC || op == 0xBD || op == ClassFile.MULTI_ARRAY ? 1 : 0;
            casting += op == 0xC0 || op == 0xC1 ? 1 : 0;
        }
        c.due("throws, locks, calls made at run time", throwing, 0);
        c.due("casts", casting, 0);
        c.due("handlers", code.handlers(), 0);
        c.due("objects made outside of constructors", name.contains("<init>") ? 0 : making, 0);
    }

    private static void calls(ClassFile.Code code) {
        for (String called : code.calls()) {
            c.due(called + " may be called", methods.containsKey(called) || LIBRARY.contains(called) ? 1 : 0, 1);
        }
    }

    /** Longest chains of calls, each method entered once; recursion is known by name. */
    private static void depth() {
        Set<String> again = new TreeSet<>();
        List<String> longest = List.of();
        for (String name : methods.keySet()) {
            List<String> chain = longestFrom(name, new ArrayDeque<>(), again);
            longest = chain.size() > longest.size() ? chain : longest;
        }
        System.out.println("the longest chain of calls: " + longest.size() + " " + longest);
        c.due("calls at most eight deep", Math.max(0, longest.size() - DEEPEST), 0);
        for (String name : again) {
            String bare = name.substring(name.indexOf('.') + 1, name.indexOf('('));
            c.due("recursion through " + name, RECURSIVE.contains(bare) ? 1 : 0, 1);
        }
    }

    private static List<String> longestFrom(String name, Deque<String> open, Set<String> again) {
        if (open.contains(name)) {
            again.add(name);
            return List.of();
        }
        open.push(name);
        List<String> best = Collections.emptyList();
        for (String called : new TreeSet<>(methods.get(name).calls())) {
            if (methods.containsKey(called)) {
                List<String> chain = longestFrom(called, open, again);
                best = chain.size() > best.size() ? chain : best;
            }
        }
        open.pop();
        List<String> all = new ArrayList<>(best);
        all.add(0, name.substring(name.indexOf('.') + 1, name.indexOf('(')));
        return all;
    }
}
