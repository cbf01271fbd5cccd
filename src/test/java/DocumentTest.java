import java.lang.reflect.Method;
import java.util.ArrayList;
import java.util.List;
import java.util.Map;
import java.util.Set;
import java.util.TreeSet;
import java.util.regex.Matcher;
import java.util.regex.Pattern;

/**
 * The document from its first line on, but for what TermsTest and BoundariesTest quote: its headings, what the class is,
 * its face, and what is not promised.
 */
public final class DocumentTest {
    private static final int BAD = -1, NONE = -4, NULL = -11;
    private static final int MOST_CALLS = 512;
    /** RANGE 630, SPAN 90090. */
    private static final String PLAIN_ONES = "p7,p9,p10;p11,p13";
    private static final String ALL_KINDS = "p7,l9,s10;w11,z13";

    private DocumentTest() {
    }

    public static void main(String[] args) {
        Sentences s = new Sentences();
        if (!s.asWritten().isEmpty()) {
            headings(s.asWritten());
            face(s.asWritten().get("The public face"));
        }
        s.under("What it is");
        registers(s);
        kindsAndWhatIsDone(s);
        whatIsTold(s);
        sheetsImages(s);
        calls512(s);
        s.under("Not promised");
        notPromised(s);
        s.end("DocumentTest");
    }

    private static void due(String call, long got, long want) {
        Due.due(call, got, want);
    }

    private static RestRegisters with(String text) {
        return Due.with(text);
    }

    /** A promise for each call of the face, in its order, with the line of the face. */
    private static void headings(Map<String, String> parts) {
        List<String> want = new ArrayList<>(List.of("# RestRegisters", "What it is", "The public face", "Terms"));
        want.add("Promise 1: A new object");
        Due.holds("the line of promise 1", parts.getOrDefault(want.get(4), "").contains("`RestRegisters()`: "));
        Matcher call = calls(parts.get("The public face"));
        for (int number = 2; call.find(); number++) {
            String heading = "Promise " + number + ": " + call.group(1);
            want.add(heading);
            String line = "`" + call.group().replaceAll("public |;", "") + "`: ";
            Due.holds("the line of " + heading + " is " + line, parts.getOrDefault(heading, "").contains(line));
        }
        want.add("Not promised");
        Due.holds("the headings are " + want, new ArrayList<>(parts.keySet()).equals(want));
    }

    private static Matcher calls(String face) {
        return Pattern.compile("public int (\\w+)\\(([^)]*)\\);").matcher(face);
    }

    private static void face(String face) {
        Due.holds("the class", face.contains("public final class " + RestRegisters.class.getName() + " {"));
        Set<String> want = new TreeSet<>();
        Matcher call = calls(face);
        while (call.find()) {
            want.add(call.group(1) + "(" + call.group(2).replaceAll("(\\w+) \\w+", "$1") + ")");
        }
        Set<String> got = new TreeSet<>();
        for (Method method : RestRegisters.class.getMethods()) {
            if (method.getDeclaringClass() == RestRegisters.class) {
                StringBuilder types = new StringBuilder();
                for (Class<?> type : method.getParameterTypes()) {
                    types.append(types.length() == 0 ? "" : ", ").append(type.getName());
                }
                got.add(method.getName() + "(" + types + ")");
            }
        }
        due("how many calls", got.size(), 34);
        Due.holds("the calls are " + want, got.equals(want));
        String constants = "BAD = " + RestRegisters.BAD + ", NOT = " + RestRegisters.NOT + ", FULL = " + RestRegisters.FULL
                + ", NONE = " + RestRegisters.NONE + ", NULL = " + RestRegisters.NULL + ", CAST = " + RestRegisters.CAST
                + ", INDEX = " + RestRegisters.INDEX + ", SIZE = " + RestRegisters.SIZE;
        Due.holds("the constants are " + constants, face.contains("public static final int " + constants + ";"));
    }

    private static void registers(Sentences s) {
        s.test("Numbers told by their rests: a register is a few wheels side by side, of unlike sizes that have no common part, "
                + "each shows what is left over by its size,", () -> {
            RestRegisters x = with(PLAIN_ONES);
            due("lay", x.lay(0, 500), 0);
            Due.rests(x, 0, 3, 5, 0, 5, 6);
            due("sizes with a common part", Due.tell(x, "p6,p9"), -24);
            due("like sizes", Due.tell(x, "p7,p7"), -24);
        });
        s.test("so that a great number is told by little ones,", () -> {
            RestRegisters x = with("p19,p17,p16,p15;p13,p11");
            due("lay", x.lay(3, 11085359), 0);
            Due.rests(x, 3, 18, 16, 15, 14, 12, 10);
            due("the great number", x.at(3, 0), 11085359);
        });
        s.test("and two are added wheel by wheel, none of which knows of the others, without any carry;", () -> {
            RestRegisters x = with(PLAIN_ONES);
            x.lay(0, 500);
            x.lay(1, 321);
            due("add", x.add(0, 1), 821);
            Due.rests(x, 0, 2, 2, 1, 7, 2);
            x.undo();
            due("one wheel turned", x.slip(0, 1, 0), 5);
            x.add(0, 1);
            Due.rests(x, 0, 2, 6, 1, 7, 2);
        });
        s.test("some wheels are honest ones, by which it is told how great numbers may be,", () -> {
            RestRegisters x = with(PLAIN_ONES);
            due("honest ones", x.count(1), 3);
            due("how great", x.count(2), 7 * 9 * 10);
            x.lay(0, 629);
            due("the greatest", x.at(0, 1), 1);
            x.lay(0, 630);
            due("too great", x.at(0, 1), 0);
        });
        s.test("some are checks, by which it is found out that one of them has slipped;", () -> {
            for (int number : new int[] {0, 1, 500, 629}) {
                RestRegisters x = with(PLAIN_ONES);
                x.lay(0, number);
                for (int wheel = 0; wheel < 5; wheel++) {
                    for (int more = 1; more < x.of(wheel, 1); more++) {
                        x.slip(0, wheel, (x.rest(0, wheel) + more) % x.of(wheel, 1));
                        due(number + ", wheel " + wheel + " by " + more + ": may it be", x.at(0, 1), 0);
                        due(number + ", wheel " + wheel + " by " + more + ": which", x.blame(0), 1 << wheel);
                        x.undo();
                    }
                }
            }
        });
    }

    private static void kindsAndWhatIsDone(Sentences s) {
        s.test("wheels of kinds, such as lose one as they pass nought, stick at one, are worn, or lazy;", () -> {
            RestRegisters x = with(ALL_KINDS);
            for (int wheel = 0; wheel < 5; wheel++) {
                due("kind of wheel " + wheel, x.of(wheel, 0), wheel);
            }
            due("plain", x.shows(0, 5, 6, 0), 4);
            due("loses one", x.shows(1, 5, 6, 0), 1);
            due("sticks at one", x.shows(2, 5, 1, 0), 5);
            due("is worn", x.shows(3, 4, 4, 0), 0);
            due("is lazy", x.shows(4, 3, 7, 0), 3);
        });
        s.test("numbers laid, added, multiplied, turned about, a wheel turned by mistake, by draws, undone;", () -> {
            RestRegisters x = with(PLAIN_ONES);
            due("laid", x.lay(0, 20), 0);
            due("laid", x.lay(1, 30), 0);
            due("added", x.add(0, 1), 50);
            due("multiplied", x.times(0, 1), 1500);
            due("turned about", x.negate(0), 90090 - 1500);
            due("by mistake", x.slip(0, 2, 5), 0);
            Due.holds("by draws", x.drift(1) >= 0);
            int[] values = {0, 90090 - 1500, 1500, 50, 20, 20, 0};
            for (int more = 6; more >= 0; more--) {
                due("undone", x.undo(), more);
                if (more < 6) {
                    due("value, " + more + " more to be undone", x.at(0, 0), values[6 - more]);
                }
            }
            due("none is known", x.undo(), NONE);
        });
    }

    private static void whatIsTold(Sentences s) {
        s.test("what number it is, whether it may be, its mixed figures, which of two is greater, which one wheel is to blame, the "
                + "nearest number that may be, how far those that may be are apart, what comes of so many sums, behind how many "
                + "it is as before, how many sums a wheel gets wrong;", () -> {
            RestRegisters x = with(PLAIN_ONES);
            x.lay(0, 500);
            x.lay(1, 321);
            x.lay(3, 7 * 9 * 11 * 13);
            x.slip(0, 1, 3);
            due("what number it is", x.at(0, 0), 500 + 8 * 10010);
            due("whether it may be", x.at(0, 1), 0);
            int[] figures = {3, 0, 9, 6, 11};
            for (int k = 0; k < 5; k++) {
                due("figure " + k, x.figure(0, k), figures[k]);
            }
            due("which is greater", x.order(0, 1), 2);
            due("which wheel is to blame", x.blame(0), 2);
            due("the nearest number", x.nearest(0, 0), 500);
            due("how near", x.nearest(0, 1), 1);
            due("how far apart", x.apart(), 3);
            due("so many sums", x.sum(1, 1, 3, 0), 3);
            due("as before", x.again(0, 3), 10);
            due("sums that it gets wrong", x.of(0, 3), 0);
            due("sums that a sticking one gets wrong", with("s10").of(0, 3), 10);
        });
        s.test("the odds that slips go by unseen;", () -> {
            RestRegisters x = with("p2;p3");
            due("above: only both together", x.unseen(0, 5, 0), 1);
            due("below", x.unseen(0, 5, 1), 4);
        });
    }

    private static void sheetsImages(Sentences s) {
        s.test("numbers by rests of which some are rubbed out;", () -> {
            RestRegisters x = with(PLAIN_ONES);
            Due.fill(x, 0, 0, 3, -1, 0, -1, -1);
            due("how many: 10, 80 .. 570", x.rubbed(0, 0, 0, 0), 9);
            due("the least", x.rubbed(0, 0, 0, 1), 10);
        });
        s.test("of which kind a wheel is by its sums;", () -> {
            RestRegisters x = with(PLAIN_ONES);
            Due.fill(x, 0, 2, 5, 4, 1, 3, 3, 0);
            due("losing or worn", x.seen(0, 0, 2, 0, 1), 2 + 8);
            due("worn", x.seen(0, 0, 2, 0, 2), 8);
        });
        s.test("sets of wheels as texts; images; sheets that may be missing.", () -> {
            RestRegisters x = new RestRegisters();
            due("no image", x.restore(), NONE);
            due("a text", Due.tell(x, ALL_KINDS), 5);
            due("image", x.image(), 1);
            due("another text", Due.tell(x, "p2"), 1);
            due("restore", x.restore(), 1);
            due("wheels", x.count(0), 5);
            due("a sheet is missing", x.film(0, 2, 1, 0), NULL);
            due("a new one", x.sheet(2, 1, 5), 5);
            due("it is there", x.film(0, 2, 1, 0), 5);
            due("drop", x.drop(2), 5);
            due("it is missing", x.film(0, 2, 1, 0), NULL);
        });
    }

    private static void calls512(Sentences s) {
        s.test("An object is used for at most 512 calls after it has been made; what later calls answer is free.", () -> {
            RestRegisters x = with("p19");
            for (int call = 5; call <= MOST_CALLS; call++) {
                due("call " + call, x.lay(0, call % 19), call == 5 ? 0 : (call - 1) % 19);
            }
            RestRegisters full = new RestRegisters();
            for (int call = 1; call <= MOST_CALLS; call++) {
                due("call " + call, full.type(' '), call <= 40 ? call : -3);
            }
            RestRegisters images = with("p19");
            for (int call = 5; call <= MOST_CALLS; call++) {
                due("call " + call, call % 2 == 0 ? images.image() : images.drift(40), call % 2 == 0 ? 1 : 15);
            }
        });
    }

    private static void notPromised(Sentences s) {
        s.nothingToTest("How the state is held inside the object is free, as are the speed of each call, the text of toString and "
                + "the behaviour of equals and hashCode.");
        s.test("Use of one object from several threads at once is not promised to be safe.", DocumentTest::twoObjects);
        s.test("Nothing is promised beyond the answers and state changes described above, and nothing about an object after its "
                + "512th call.", () -> {
            RestRegisters x = with(ALL_KINDS);
            for (int call = 7; call <= 3 * MOST_CALLS; call++) {
                Due.holds("call " + call + " does not throw", Calls.call(x, "drift", 40) != Calls.THREW);
            }
        });
    }

    /** Several objects are safe: what is told to one is not known to the other. */
    private static void twoObjects() {
        RestRegisters x = new RestRegisters();
        RestRegisters y = new RestRegisters();
        x.type('p');
        y.type('l');
        due("a tape of its own", x.type('7'), 2);
        y.type('9');
        due("set of the one", x.set(), 1);
        due("no wheels of the other", y.count(0), 0);
        due("set of the other", y.set(), 1);
        due("width of the one", x.of(0, 1), 7);
        due("width of the other", y.of(0, 1), 9);
        x.lay(0, 6);
        due("registers of its own", y.at(0, 0), 0);
        due("nothing to be undone", y.undo(), NONE);
        x.image();
        due("no image", y.restore(), NONE);
        x.seed(99);
        due("a draw of its own", y.seed(1), 1);
        x.sheet(0, 0, 4);
        due("sheets of its own", y.drop(0), NULL);
        due("too great for the one alone", x.lay(0, 8), BAD);
        due("not for the other", y.lay(0, 8), 0);
    }
}
