import java.lang.reflect.Constructor;
import java.lang.reflect.Field;
import java.lang.reflect.Method;
import java.lang.reflect.Modifier;
import java.nio.file.Files;
import java.nio.file.Path;
import java.util.Arrays;
import java.util.HashSet;
import java.util.Set;
import java.util.TreeSet;
import java.util.regex.Matcher;
import java.util.regex.Pattern;

/** The document's face, the rules of LANGUAGE.md that can be seen from outside, and the room that a run takes. */
public final class LanguageTest {
    private static final String[] FACE = {
        "about(int,int,int)int", "apply(int,int,int)boolean", "band(int,int,int)boolean", "bits(int,int)boolean",
        "choose(int,int,int,int)boolean", "clear(int)boolean", "compare(int,int,int,int)boolean", "done(int)int",
        "enter(int,int,int,int)boolean", "entry(int,int,int)int", "feature(int,int,int,int)boolean",
        "fuse(int,int,int,int)boolean", "get(int,int,int)long", "gone()int", "holds(int)int", "job()boolean",
        "keep(int,int)boolean", "line(int,int,int)boolean", "mark(int,int,int,int)boolean", "math(int,int,int)boolean",
        "move(int,int,int,int,int)boolean", "reckon(int,int,int,int)boolean", "row(int,int,int)boolean",
        "sample(int,int,int,long,long)long", "scale(int,long,long)boolean", "set(int,int,int,long)boolean", "size(int,int)int",
        "stat(int,int)long", "step(int,int,int,int)int", "stepOf(int,int)int", "table(int,int,int)boolean", "told()int",
        "total()long", "turn(int,int,int)boolean"};

    private static final String[] FORBIDDEN = {
        "\\b(throw|throws|try|catch|finally|synchronized|assert|import|package|protected|volatile|transient|native)\\b",
        "\\b(double|float|Double|Float|Object|Thread|Random|hashCode|toString|Exact)\\b", "->", "::", "\\bnew\\s+\\w+\\s*\\(.*\\)\\s*\\{",
        "@\\w+", "\\[\\]\\s*\\[\\]"};

    private static final String[] LIBRARY = {
        "Math.max", "Math.min", "Math.floorMod", "Long.compare", "Long.numberOfLeadingZeros", "System.arraycopy"};

    public static void main(String[] args) throws Exception {
        face();
        classes();
        source(Files.readString(Path.of("src/main/java/LayerHouse.java")));
        room();
        Due.end("LanguageTest");
    }

    private static void face() throws Exception {
        Due.is("public final", LayerHouse.class.getModifiers(), Modifier.PUBLIC | Modifier.FINAL);
        Set<String> face = new TreeSet<>();
        Set<String> hidden = new HashSet<>();
        for (Method m : LayerHouse.class.getDeclaredMethods()) {
            if (Modifier.isPublic(m.getModifiers())) {
                StringBuilder text = new StringBuilder(m.getName()).append('(');
                for (Class<?> type : m.getParameterTypes()) {
                    text.append(text.charAt(text.length() - 1) == '(' ? "" : ",").append(type.getName());
                }
                face.add(text.append(')').append(m.getReturnType().getName()).toString());
            } else {
                hidden.add(m.getName());
                Due.is(m.getName() + " is private", Modifier.isPrivate(m.getModifiers()) ? 1 : 0, 1);
            }
        }
        Due.is("the face " + face, face.equals(new TreeSet<>(Arrays.asList(FACE))) ? 1 : 0, 1);
        for (Class<?> inside : LayerHouse.class.getDeclaredClasses()) {
            for (Method m : inside.getDeclaredMethods()) {
                hidden.add(m.getName());
            }
        }
        for (String method : FACE) {
            String name = method.substring(0, method.indexOf('('));
            Due.is("no other method is named " + name, hidden.contains(name) ? 1 : 0, 0);
        }
        Constructor<?>[] constructors = LayerHouse.class.getDeclaredConstructors();
        Due.is("one constructor", constructors.length, 1);
        Due.is("public constructor", constructors[0].getModifiers(), Modifier.PUBLIC);
        for (Field f : LayerHouse.class.getDeclaredFields()) {
            Due.is("field " + f.getName(), Modifier.isPrivate(f.getModifiers()) ? 1 : 0, f.getName().equals("NONE") ? 0 : 1);
        }
        Due.is("NONE", LayerHouse.NONE, -1);
    }

    private static void classes() {
        Class<?>[] inside = LayerHouse.class.getDeclaredClasses();
        Due.is("at most twelve classes", inside.length + 1 <= 12 ? 1 : 0, 1);
        for (Class<?> c : inside) {
            Due.is(c.getName() + " is static", Modifier.isStatic(c.getModifiers()) ? 1 : 0, 1);
            Due.is(c.getName() + " is not public", Modifier.isPublic(c.getModifiers()) ? 1 : 0, 0);
            int fields = 0;
            for (Field f : c.getDeclaredFields()) {
                boolean isStatic = Modifier.isStatic(f.getModifiers());
                fields += isStatic ? 0 : 1;
                boolean isConstant = Modifier.isFinal(f.getModifiers()) && (f.getType() == int.class || f.getType() == long.class);
                Due.is("static " + f, !isStatic || isConstant ? 1 : 0, 1);
            }
            Due.is("fields of " + c.getName(), fields <= 20 ? 1 : 0, 1);
            for (Method m : c.getDeclaredMethods()) {
                Due.is("parameters of " + m, m.getParameterCount() <= 7 ? 1 : 0, 1);
            }
        }
    }

    private static void source(String text) {
        String code = text.replaceAll("(?s)/\\*.*?\\*/", "").replaceAll("//[^\n]*", "");
        for (String rule : FORBIDDEN) {
            Matcher m = Pattern.compile(rule).matcher(code);
            Due.is("forbidden: " + rule, m.find() ? 1 : 0, 0);
        }
        Matcher calls = Pattern.compile("\\b(Math|Long|Integer|System|Arrays|String|List|ArrayList)\\b(\\.\\w+)?").matcher(code);
        while (calls.find()) {
            Due.is("the library: " + calls.group(), Arrays.asList(LIBRARY).contains(calls.group()) ? 1 : 0, 1);
        }
        Due.is("characters 0 to 255", text.chars().allMatch(c -> c < 256) ? 1 : 0, 1);
        int length = 0;
        for (String row : text.split("\n")) {
            length = row.matches("    (    )?\\S.*\\{") ? 0 : length + 1;
            Due.is("a method is short: " + row, length <= 60 || !row.matches("    (    )?\\}") ? 1 : 0, 1);
        }
    }

    /** 512 of the dearest calls: the room of 7.3 million elements is some 58 million bytes as longs. */
    private static void room() {
        com.sun.management.ThreadMXBean threads =
            (com.sun.management.ThreadMXBean) java.lang.management.ManagementFactory.getThreadMXBean();
        LayerHouse h = new LayerHouse();
        h.band(0, Due.DOUBLE, 400);
        h.table(1, 20, 20);
        long before = threads.getThreadAllocatedBytes(Thread.currentThread().getId());
        for (int call = 2; call < 512; call++) {
            if (call % 2 == 0) {
                h.reckon(3, 0, 0, 2);
            } else {
                h.table(1, 20, 20);
            }
        }
        long bytes = threads.getThreadAllocatedBytes(Thread.currentThread().getId()) - before;
        Due.is("512 dear calls stay below 4 million bytes: " + bytes, bytes < 4000000 ? 1 : 0, 1);
    }
}
