import java.lang.reflect.Constructor;
import java.lang.reflect.Field;
import java.lang.reflect.Method;
import java.lang.reflect.Modifier;
import java.nio.file.Files;
import java.nio.file.Path;
import java.util.ArrayList;
import java.util.List;
import java.util.Set;
import java.util.TreeSet;
import java.util.regex.Matcher;
import java.util.regex.Pattern;

/** The rules of LANGUAGE.md that a program can look after, over the source and the compiled class. */
public final class LanguageTest {
    private static final String FACE = "against/2 apart/2 back/0 best/1 bill/2 blame/2 brought/2 claim/2 close/1 cure/1 "
        + "days/1 deliver/2 end/1 far/1 fault/0 feed/5 gone/1 heap/2 hold/2 is/1 law/0 least/1 limit/1 line/2 matched/1 "
        + "octet/1 pack/1 paid/1 rate/2 read/1 remark/3 remarked/3 settled/1 shed/1 strike/1 tally/2 text/0 twin/2 "
        + "worn/2 write/0";
    private static final Checks c = new Checks();

    public static void main(String[] args) throws Exception {
        String source = bare(Files.readString(Path.of(args[0])));
        words(source);
        methods(source);
        face();
        for (Class<?> inside : BaleTallies.class.getDeclaredClasses()) {
            inside(inside);
        }
        c.due("classes in the file, twelve at most", BaleTallies.class.getDeclaredClasses().length + 1 > 12 ? 1 : 0, 0);
        c.finish();
    }

    /** The source without comments and without what stands in quotes. */
    private static String bare(String source) {
        return source.replaceAll("(?s)/\\*.*?\\*/", "").replaceAll("//[^\n]*", "").replaceAll("'[^']+'", "0");
    }

    private static void words(String source) {
        c.part("words");
        String[] never = {"\\b(throw|throws|try|catch|synchronized|assert|import|package|protected|native|volatile)\\b",
            "->", "::", "\"", "\\bExact\\b", "Exact\\(", "\\bdouble\\b", "\\bfloat\\b", "System\\.", "Thread", "Random",
            "\\b(hashCode|toString|equals)\\b", "while \\(true\\)", "for \\(;;\\)", "@"};
        for (String word : never) {
            Matcher m = Pattern.compile(word).matcher(source);
            c.due("how often " + word + " stands there", (int) m.results().count(), 0);
        }
    }

    private static void methods(String source) {
        c.part("methods");
        Matcher m = Pattern.compile("(?m)^( {4}| {8})(?! )[^\n;=]*\\)( throws [^{]*)? \\{$").matcher(source);
        int found = 0;
        while (m.find()) {
            found++;
            String head = m.group();
            int close = source.indexOf("\n" + m.group(1) + "}", m.end());
            int lines = (int) source.substring(m.start(), close).lines().count();
            c.due("lines above sixty of" + head, Math.max(0, lines - 60), 0);
            boolean maker = head.matches(" *(public )?[A-Z][A-Za-z]*\\(.*");
            boolean makes = Pattern.compile("\\bnew\\b").matcher(source.substring(m.start(), close)).find();
            c.due("objects made by" + head, makes && !maker ? 1 : 0, 0);
        }
        c.due("methods were found", found > 100 ? 1 : 0, 1);
    }

    private static void face() {
        c.part("face");
        Class<BaleTallies> type = BaleTallies.class;
        Set<String> open = new TreeSet<>();
        for (Method m : type.getDeclaredMethods()) {
            if (Modifier.isPublic(m.getModifiers())) {
                open.add(m.getName() + "/" + m.getParameterCount());
                c.due(m.getName() + " answers an int", m.getReturnType() == int.class ? 1 : 0, 1);
            } else {
                c.due(m.getName() + " is private", Modifier.isPrivate(m.getModifiers()) ? 1 : 0, 1);
            }
        }
        String all = String.join(" ", open);
        if (!all.equals(FACE)) {
            System.out.println(all);
        }
        c.due("the face is the document's", all.equals(FACE) ? 1 : 0, 1);
        c.due("public and final", type.getModifiers(), Modifier.PUBLIC | Modifier.FINAL);
        List<String> fields = new ArrayList<>();
        for (Field f : type.getDeclaredFields()) {
            if (!Modifier.isPrivate(f.getModifiers())) {
                fields.add(f.getName());
            }
        }
        c.due("NONE alone is open", fields.equals(List.of("NONE")) ? 1 : 0, 1);
        c.due("one constructor", type.getDeclaredConstructors().length, 1);
        sizes(type);
    }

    private static void inside(Class<?> type) {
        c.part(type.getSimpleName());
        c.due("static", Modifier.isStatic(type.getModifiers()) ? 1 : 0, 1);
        c.due("not open", Modifier.isPublic(type.getModifiers()) || Modifier.isProtected(type.getModifiers()) ? 1 : 0, 0);
        for (Method m : type.getDeclaredMethods()) {
            boolean taken = (" " + FACE).contains(" " + m.getName() + "/");
            c.due("a public method's name: " + m.getName(), taken ? 1 : 0, 0);
        }
        sizes(type);
    }

    private static void sizes(Class<?> type) {
        int own = 0;
        for (Field f : type.getDeclaredFields()) {
            if (Modifier.isStatic(f.getModifiers())) {
                c.due(f.getName() + " is a constant",
                    Modifier.isFinal(f.getModifiers()) && f.getType().isPrimitive() ? 1 : 0, 1);
            } else {
                own++;
            }
        }
        c.due("fields above twenty", Math.max(0, own - 20), 0);
        Set<String> names = new TreeSet<>();
        for (Method m : type.getDeclaredMethods()) {
            c.due("seven parameters at most: " + m.getName(), m.getParameterCount() > 7 ? 1 : 0, 0);
            c.due("one method of a name: " + m.getName(), names.add(m.getName()) ? 1 : 0, 1);
        }
        for (Constructor<?> k : type.getDeclaredConstructors()) {
            c.due("seven parameters at most", k.getParameterCount() > 7 ? 1 : 0, 0);
        }
    }
}
