import java.io.IOException;
import java.lang.reflect.Constructor;
import java.lang.reflect.Field;
import java.lang.reflect.Method;
import java.lang.reflect.Modifier;
import java.nio.file.Files;
import java.nio.file.Path;
import java.util.ArrayList;
import java.util.Collections;
import java.util.List;
import java.util.Set;
import java.util.TreeSet;
import java.util.regex.Matcher;
import java.util.regex.Pattern;

/** The face of the class, the room it takes, and what of LANGUAGE.md can be seen from its text or by reflection. */
public final class LanguageTest {
    private static final Path SOURCE = Path.of("src/main/java/RestRegisters.java");
    private static final String[] CONSTANTS = {
        "BAD -1", "NOT -2", "FULL -3", "NONE -4", "NULL -11", "CAST -12", "INDEX -13", "SIZE -14",
    };
    private static final String[] CALLS = {
        "type 1", "set 0", "of 2", "rest 2", "at 2", "shows 4", "count 1", "lay 2", "add 2", "times 2", "negate 1",
        "slip 3", "take 2", "drift 1", "undo 0", "seed 1", "figure 2", "order 2", "blame 1", "nearest 2", "apart 0",
        "sum 4", "again 2", "should 2", "unseen 3", "image 0", "restore 0", "rubbed 4", "seen 5", "film 4", "sheet 3",
        "drop 1", "item 4", "copy 5",
    };
    /** What rules 3, 4, 6, 12, 13 leave out. */
    private static final String[] NO_WORDS = {
        "package", "finally", "synchronized", "assert", "throws", "Object", "Random", "random", "Thread", "nanoTime",
        "currentTimeMillis", "getClass", "hashCode", "getMessage", "System.out", "System.err", "System.in", "Throwable",
        "NullPointerException", "ClassCastException", "ArrayIndexOutOfBoundsException", "NegativeArraySizeException",
        "ArrayStoreException",
    };
    private static final String[] LIBRARY = {
        "System.arraycopy", "Arrays.copyOf", "Arrays.copyOfRange", "Arrays.fill", "Math.max", "Math.min", "Math.abs",
        "Math.floorDiv", "Math.floorMod",
    };
    private static final String[] IMPORTS = {
        "java.util.ArrayList", "java.util.List", "java.util.Arrays", "java.util.Iterator", "java.util.NoSuchElementException",
    };

    private static final char[] SET = "p19,l17,s16,w15;z13,p11".toCharArray();

    private LanguageTest() {
    }

    public static void main(String[] args) throws IOException, IllegalAccessException {
        face();
        everyClass();
        text();
        room();
        Due.end("LanguageTest");
    }

    private static void face() throws IllegalAccessException {
        Class<?> face = RestRegisters.class;
        Due.holds("the class is public and final", face.getModifiers() == (Modifier.PUBLIC | Modifier.FINAL));
        Set<String> constants = new TreeSet<>();
        for (Field field : face.getDeclaredFields()) {
            if (Modifier.isPublic(field.getModifiers())) {
                Due.holds(field + " is a constant int", field.getType() == int.class && isConstant(field));
                constants.add(field.getName() + " " + field.getInt(null));
            } else {
                Due.holds(field + " is private", Modifier.isPrivate(field.getModifiers()));
            }
        }
        same("the constants", constants, CONSTANTS);
        Set<String> calls = new TreeSet<>();
        for (Method method : face.getDeclaredMethods()) {
            if (Modifier.isPublic(method.getModifiers())) {
                Due.holds(method + " answers an int", method.getReturnType() == int.class);
                calls.add(method.getName() + " " + method.getParameterCount());
            } else {
                Due.holds(method + " is private", Modifier.isPrivate(method.getModifiers()));
            }
        }
        same("the calls", calls, CALLS);
        Constructor<?>[] makers = face.getDeclaredConstructors();
        Due.due("how many constructors", makers.length, 1);
        Due.due("its parameters", makers[0].getParameterCount(), 0);
        Due.holds("it is public", Modifier.isPublic(makers[0].getModifiers()));
    }

    private static boolean isConstant(Field field) {
        return Modifier.isStatic(field.getModifiers()) && Modifier.isFinal(field.getModifiers());
    }

    private static void same(String what, Set<String> got, String[] want) {
        Set<String> due = new TreeSet<>();
        Collections.addAll(due, want);
        Due.holds(what + " are " + got, got.equals(due));
    }

    private static void everyClass() {
        List<Class<?>> all = new ArrayList<>();
        all.add(RestRegisters.class);
        Collections.addAll(all, RestRegisters.class.getDeclaredClasses());
        Due.holds("some twelve classes", all.size() <= 12);
        Set<String> names = new TreeSet<>();
        for (String call : CALLS) {
            names.add(call.substring(0, call.indexOf(' ')));
        }
        for (Class<?> one : all) {
            int fields = 0;
            for (Field field : one.getDeclaredFields()) {
                fields += Modifier.isStatic(field.getModifiers()) ? 0 : 1;
                Due.holds(field + ": static ones are final", !Modifier.isStatic(field.getModifiers()) || isConstant(field));
            }
            Due.holds(one + " has at most twenty fields", fields <= 20);
            for (Method method : one.getDeclaredMethods()) {
                Due.holds(method + " takes at most seven", method.getParameterCount() <= 7);
                boolean ownName = !Modifier.isPrivate(method.getModifiers()) || !names.contains(method.getName());
                Due.holds(method + " bears a name of its own", ownName);
            }
            boolean hidden = (one.getModifiers() & (Modifier.PUBLIC | Modifier.PROTECTED)) == 0;
            Due.holds(one + " is not to be seen outside", one == RestRegisters.class || hidden);
        }
    }

    private static void text() throws IOException {
        List<String> lines = Files.readAllLines(SOURCE);
        int longest = 0;
        int start = 0;
        StringBuilder all = new StringBuilder();
        for (int k = 0; k < lines.size(); k++) {
            String line = lines.get(k);
            Due.holds("line " + (k + 1) + " has plain signs alone", line.chars().allMatch(c -> c >= 32 && c < 127));
            if (line.matches(" +(public |private |static |final )*[\\w\\[\\]]+ \\w+\\(.*\\) \\{")) {
                start = k;
            }
            longest = Math.max(longest, line.matches(" +\\}") ? k - start : 0);
            boolean comment = line.trim().startsWith("/") || line.trim().startsWith("*");
            all.append(comment ? "" : line.replaceAll("\"[^\"]*\"", "\"\"")).append('\n');
        }
        String code = all.toString();
        Due.holds("methods of some sixty lines, " + longest, longest <= 65);
        for (String word : NO_WORDS) {
            Due.holds("no " + word, !Pattern.compile("\\b" + Pattern.quote(word) + "\\b").matcher(code).find());
        }
        String withoutCases = code.replaceAll("\\b(case [^:;{}]*?|default )->", "");
        Due.holds("no lambda, no method reference", !withoutCases.contains("->") && !withoutCases.contains("::"));
        Due.holds("none that ends in Exact", !code.contains("Exact("));
        all("\\b(System|Arrays|Math)\\.\\w+", code, LIBRARY);
        all("(?<=import )[\\w.]+", code, IMPORTS);
    }

    private static void all(String words, String code, String[] allowed) {
        Matcher found = Pattern.compile(words).matcher(code);
        while (found.find()) {
            Due.holds(found.group() + " is of what may be used", List.of(allowed).contains(found.group()));
        }
    }

    /** All calls of a run live in one room: an object and all its calls take little of it. */
    private static void room() {
        com.sun.management.ThreadMXBean threads = (com.sun.management.ThreadMXBean) java.lang.management.ManagementFactory.getThreadMXBean();
        long me = Thread.currentThread().getId();
        wholeLife();
        long before = threads.getThreadAllocatedBytes(me);
        for (int k = 0; k < 100; k++) {
            wholeLife();
        }
        long bytes = (threads.getThreadAllocatedBytes(me) - before) / 100;
        Due.holds("an object and some 500 calls made " + bytes + " bytes", bytes < 400000);
    }

    /** Some 500 calls, as many as an object is used for. */
    private static void wholeLife() {
        RestRegisters x = new RestRegisters();
        x.sheet(0, 3, 24);
        for (int k = 0; k < 4; k++) {
            everyCall(x);
        }
    }

    private static void everyCall(RestRegisters x) {
        for (char letter : SET) {
            x.type(letter);
        }
        x.set();
        x.lay(0, 11085359);
        x.lay(1, 77521);
        x.add(0, 1);
        x.times(0, 1);
        x.negate(0);
        x.slip(0, 0, 3);
        x.take(2, 0);
        x.drift(40);
        x.undo();
        x.seed(9);
        x.image();
        x.restore();
        for (int what = 0; what < 7; what++) {
            x.count(what);
            x.of(1, what);
            x.at(0, what);
            x.shows(1, 2, 3, what);
            x.nearest(0, what);
            x.unseen(0, 3, what);
            x.rubbed(0, 3, 0, what);
        }
        x.rest(0, 0);
        x.figure(0, 5);
        x.order(0, 1);
        x.blame(0);
        x.apart();
        x.sum(0, 1, 1000, 1);
        x.again(0, 1);
        x.should(0, 1);
        x.seen(0, 0, 3, 0, 8);
        x.film(0, 0, 3, 0);
        x.item(0, 3, 7, 5);
        x.copy(0, 0, 0, 1, 20);
        x.drop(0);
        x.sheet(0, 3, 24);
    }
}
