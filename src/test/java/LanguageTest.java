import java.io.IOException;
import java.lang.reflect.Constructor;
import java.lang.reflect.Field;
import java.lang.reflect.Method;
import java.lang.reflect.Modifier;
import java.nio.file.Files;
import java.nio.file.Path;
import java.util.ArrayList;
import java.util.Collections;
import java.util.List;
import java.util.Set;
import java.util.TreeSet;
import java.util.regex.Matcher;
import java.util.regex.Pattern;

/** The face of the class, the room it takes, and what of LANGUAGE.md can be seen from its text or by reflection. */
public final class LanguageTest {
    private static final Path SOURCE = Path.of("src/main/java/RestRegisters.java");
    private static final String[] CONSTANTS = {
        "BAD -1", "NOT -2", "FULL -3", "NONE -4", "NULL -11", "CAST -12", "INDEX -13", "SIZE -14",
    };
    private static final String[] CALLS = {
        "type 1", "set 0", "of 2", "rest 2", "at 2", "shows 4", "count 1", "lay 2", "add 2", "times 2", "negate 1",
        "slip 3", "take 2", "drift 1", "undo 0", "seed 1", "figure 2", "order 2", "blame 1", "nearest 2", "apart 0",
        "sum 4", "again 2", "should 2", "unseen 3", "image 0", "restore 0", "rubbed 4", "seen 5", "film 4", "sheet 3",
        "drop 1", "item 4", "copy 5",
    };
    /** Words that the program needs none of: what rules 2, 3, 4, 6, 13 leave out, or allow only with care. */
    private static final String[] NO_WORDS = {
        "import", "package", "try", "catch", "finally", "throw", "throws", "synchronized", "assert", "double", "float",
        "Object", "System.out", "System.err", "Random", "Thread", "nanoTime", "currentTimeMillis", "getClass",
        "hashCode", "toString", "instanceof", "protected", "native", "volatile", "var", "yield",
    };

    private static final char[] SET = "p19,l17,s16,w15;z13,p11".toCharArray();

    private LanguageTest() {
    }

    public static void main(String[] args) throws IOException, IllegalAccessException {
        face();
        everyClass();
        text();
        room();
        Due.end("LanguageTest");
    }

    private static void face() throws IllegalAccessException {
        Class<?> face = RestRegisters.class;
        Due.holds("the class is public and final", face.getModifiers() == (Modifier.PUBLIC | Modifier.FINAL));
        Set<String> constants = new TreeSet<>();
        for (Field field : face.getDeclaredFields()) {
            if (Modifier.isPublic(field.getModifiers())) {
                Due.holds(field + " is a constant int", field.getType() == int.class && isConstant(field));
                constants.add(field.getName() + " " + field.getInt(null));
            } else {
                Due.holds(field + " is private", Modifier.isPrivate(field.getModifiers()));
            }
        }
        same("the constants", constants, CONSTANTS);
        Set<String> calls = new TreeSet<>();
        for (Method method : face.getDeclaredMethods()) {
            if (Modifier.isPublic(method.getModifiers())) {
                Due.holds(method + " answers an int", method.getReturnType() == int.class);
                calls.add(method.getName() + " " + method.getParameterCount());
            } else {
                Due.holds(method + " is private", Modifier.isPrivate(method.getModifiers()));
            }
        }
        same("the calls", calls, CALLS);
        Constructor<?>[] makers = face.getDeclaredConstructors();
        Due.due("how many constructors", makers.length, 1);
        Due.due("its parameters", makers[0].getParameterCount(), 0);
        Due.holds("it is public", Modifier.isPublic(makers[0].getModifiers()));
    }

    private static boolean isConstant(Field field) {
        return Modifier.isStatic(field.getModifiers()) && Modifier.isFinal(field.getModifiers());
    }

    private static void same(String what, Set<String> got, String[] want) {
        Set<String> due = new TreeSet<>();
        Collections.addAll(due, want);
        Due.holds(what + " are " + got, got.equals(due));
    }

    private static void everyClass() {
        List<Class<?>> all = new ArrayList<>();
        all.add(RestRegisters.class);
        Collections.addAll(all, RestRegisters.class.getDeclaredClasses());
        Due.holds("some twelve classes", all.size() <= 12);
        Set<String> names = new TreeSet<>();
        for (String call : CALLS) {
            names.add(call.substring(0, call.indexOf(' ')));
        }
        for (Class<?> one : all) {
            int fields = 0;
            for (Field field : one.getDeclaredFields()) {
                fields += Modifier.isStatic(field.getModifiers()) ? 0 : 1;
                Due.holds(field + ": static ones are final", !Modifier.isStatic(field.getModifiers()) || isConstant(field));
            }
            Due.holds(one + " has at most twenty fields", fields <= 20);
            for (Method method : one.getDeclaredMethods()) {
                Due.holds(method + " takes at most seven", method.getParameterCount() <= 7);
                Due.holds(method + " bears a name of its own", Modifier.isPublic(method.getModifiers()) || !names.contains(method.getName()));
            }
            boolean inside = one == RestRegisters.class || Modifier.isStatic(one.getModifiers()) && !Modifier.isPublic(one.getModifiers());
            Due.holds(one + " is static and not public", inside);
            Due.holds(one + " has no class inside", one == RestRegisters.class || one.getDeclaredClasses().length == 0);
        }
    }

    private static void text() throws IOException {
        List<String> lines = Files.readAllLines(SOURCE);
        int longest = 0;
        int start = 0;
        StringBuilder code = new StringBuilder();
        for (int k = 0; k < lines.size(); k++) {
            String line = lines.get(k);
            Due.holds("line " + (k + 1) + " has plain signs alone", line.chars().allMatch(c -> c >= 32 && c < 127));
            if (line.matches(" +(public |private |static )*[\\w\\[\\]]+ \\w+\\(.*\\) \\{")) {
                start = k;
            }
            longest = Math.max(longest, line.matches(" +\\}") ? k - start : 0);
            boolean comment = line.trim().startsWith("/") || line.trim().startsWith("*");
            code.append(comment ? "" : line.replaceAll("\"[^\"]*\"", "\"\"")).append('\n');
        }
        Due.holds("methods of some sixty lines, " + longest, longest <= 60);
        for (String word : NO_WORDS) {
            Due.holds("no " + word, !Pattern.compile("\\b" + Pattern.quote(word) + "\\b").matcher(code).find());
        }
        Due.holds("no lambda, no method reference", code.indexOf("->") < 0 && code.indexOf("::") < 0);
        Due.holds("none that ends in Exact", code.indexOf("Exact(") < 0);
        Set<String> library = new TreeSet<>();
        Matcher calls = Pattern.compile("\\b(Math|Integer|Long|System|Arrays|String)\\.(\\w+)").matcher(code);
        while (calls.find()) {
            library.add(calls.group());
        }
        same("of the library", library, new String[] {"Integer.bitCount", "Integer.compare", "Math.max", "Math.min", "System.arraycopy"});
        newOnesInConstructorsAlone(code.toString());
    }

    /** All calls of a run live in one room: what an object needs is made with it. */
    private static void newOnesInConstructorsAlone(String code) {
        Matcher made = Pattern.compile("(?m)^(.*)\\bnew (\\w+)").matcher(code);
        while (made.find()) {
            boolean field = made.group(1).matches(" +final [\\w\\[\\]]+ \\w+ = ");
            boolean maker = made.start() > code.indexOf("public RestRegisters()") && made.start() < code.indexOf("public int type");
            Due.holds("made with the object: " + made.group(), field || maker);
        }
    }

    private static void room() {
        com.sun.management.ThreadMXBean threads = (com.sun.management.ThreadMXBean) java.lang.management.ManagementFactory.getThreadMXBean();
        long me = Thread.currentThread().getId();
        RestRegisters x = Due.with("p19,l17,s16,w15;z13,p11");
        x.sheet(0, 3, 24);
        everyCall(x);
        long before = threads.getThreadAllocatedBytes(me);
        for (int k = 0; k < 2000; k++) {
            everyCall(x);
        }
        long bytes = threads.getThreadAllocatedBytes(me) - before;
        Due.holds("2000 times every call made " + bytes + " bytes", bytes < 20000);
    }

    private static void everyCall(RestRegisters x) {
        for (char letter : SET) {
            x.type(letter);
        }
        x.set();
        x.lay(0, 11085359);
        x.lay(1, 77521);
        x.add(0, 1);
        x.times(0, 1);
        x.negate(0);
        x.slip(0, 0, 3);
        x.take(2, 0);
        x.drift(40);
        x.undo();
        x.seed(9);
        x.image();
        x.restore();
        for (int what = 0; what < 7; what++) {
            x.count(what);
            x.of(1, what);
            x.at(0, what);
            x.shows(1, 2, 3, what);
            x.nearest(0, what);
            x.unseen(0, 3, what);
            x.rubbed(0, 3, 0, what);
        }
        x.rest(0, 0);
        x.figure(0, 5);
        x.order(0, 1);
        x.blame(0);
        x.apart();
        x.sum(0, 1, 1000, 1);
        x.again(0, 1);
        x.should(0, 1);
        x.seen(0, 0, 3, 0, 8);
        x.film(0, 0, 3, 0);
        x.item(0, 3, 7, 5);
        x.copy(0, 0, 0, 1, 20);
        x.drop(0);
        x.sheet(0, 3, 24);
    }
}
