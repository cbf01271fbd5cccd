import java.util.Arrays;
import java.util.Set;

/**
 * Every call with all numbers from the edges of what it takes, on objects in several states: no call throws, each
 * answers as the slow model does, what is refused or only told changes nothing, what is done changes what it does there.
 */
public final class EdgesTest {
    private static final int LEAST = Integer.MIN_VALUE, GREATEST = Integer.MAX_VALUE;
    private static final int[] REGISTER = {LEAST, -1, 0, 1, 3, 4, GREATEST};
    private static final int[] WHEEL = {LEAST, -1, 0, 1, 4, 5, 6, GREATEST};
    private static final int[] WHAT = {LEAST, -1, 0, 1, 2, 3, 4, 6, 7, GREATEST};
    private static final int[] REST = {LEAST, -1, 0, 1, 2, 6, 7, 10, 11, GREATEST};
    private static final int[] SHEET = {-1, 0, 1, 2, 3, 4};
    private static final int[] LANE = {-1, 0, 2, 3, 4};
    private static final int[] PLACE = {LEAST, -1, 0, 1, 2, 5, 6, 7, GREATEST};
    private static final Set<String> DOING = Set.of("type", "set", "lay", "add", "times", "negate", "slip", "take", "drift",
            "undo", "seed", "image", "restore", "film", "sheet", "drop", "item", "copy");

    private static String state = "";
    private static int[] before = {};

    private EdgesTest() {
    }

    public static void main(String[] args) {
        for (String one : new String[] {"new", "midway", "full tape", "widest"}) {
            state = one;
            before = Midway.found(inState(new RestRegisters()));
            Due.holds("the model is alike, " + state, Arrays.equals(before, Midway.found(inState(new SlowModel()))));
            wheelsAndRegisters();
            whatIsDone();
            foretold();
            sheets();
        }
        Due.end("EdgesTest");
    }

    private static <T> T inState(T on) {
        switch (state) {
            case "midway" -> Midway.made(on);
            case "full tape" -> {
                for (int k = 0; k < 40; k++) {
                    Calls.call(on, "type", k == 0 ? 'z' : k == 1 ? '2' : ' ');
                }
            }
            case "widest" -> {
                Calls.tell(on, "w19,l17,s16,p15;z13,p11");
                Calls.call(on, "lay", 0, 11085359);
                Calls.call(on, "lay", 1, 77519);
                Calls.call(on, "lay", 3, 77520);
                Calls.call(on, "drift", 7);
                Calls.call(on, "sheet", 1, 2, 7);
                Calls.call(on, "film", 0, 1, 2, 0);
                Calls.call(on, "sheet", 2, 2, 24);
                Calls.call(on, "sheet", 3, 0, 6);
            }
            default -> {
            }
        }
        return on;
    }

    private static void wheelsAndRegisters() {
        sweep("type", new int[] {LEAST, -1, 0, 31, 32, 'p', 126, 127, 128, 256 + 'p', GREATEST});
        sweep("set");
        sweep("of", WHEEL, WHAT);
        sweep("rest", REGISTER, WHEEL);
        sweep("at", REGISTER, WHAT);
        sweep("shows", WHEEL, REST, REST, WHAT);
        sweep("count", WHAT);
    }

    private static void whatIsDone() {
        sweep("lay", REGISTER, new int[] {LEAST, -1, 0, 1, 65, 66, 2309, 2310, 77519, 77520, 11085359, 11085360, GREATEST});
        sweep("add", REGISTER, REGISTER);
        sweep("times", REGISTER, REGISTER);
        sweep("negate", REGISTER);
        sweep("slip", REGISTER, WHEEL, REST);
        sweep("take", REGISTER, REGISTER);
        sweep("drift", new int[] {LEAST, -1, 0, 1, 2, 7, 8, 9, 39, 40, 41, GREATEST});
        sweep("undo");
        sweep("seed", new int[] {LEAST, -1, 0, 1, GREATEST});
    }

    private static void foretold() {
        sweep("figure", REGISTER, WHEEL);
        sweep("order", REGISTER, REGISTER);
        sweep("blame", REGISTER);
        sweep("nearest", REGISTER, WHAT);
        sweep("apart");
        sweep("sum", REGISTER, REGISTER, new int[] {LEAST, -1, 0, 1, 1000, 1001, GREATEST}, WHEEL);
        sweep("again", REGISTER, REGISTER);
        sweep("should", REGISTER, REGISTER);
        sweep("unseen", REGISTER, new int[] {LEAST, -1, 0, 1, 5, 10, 11, GREATEST}, WHAT);
        sweep("image");
        sweep("restore");
    }

    private static void sheets() {
        int[] many = {LEAST, -1, 0, 1, 2, 8, 9, GREATEST};
        int[] what = {-1, 0, 1, 2};
        int[] from = {-1, 0, 1, 3, 4};
        sweep("rubbed", SHEET, LANE, PLACE, what);
        sweep("seen", new int[] {-1, 0, 4, 6}, SHEET, LANE, PLACE, many);
        sweep("film", new int[] {-1, 0, 3, 4}, SHEET, LANE, PLACE);
        sweep("sheet", SHEET, LANE, new int[] {LEAST, -1, 0, 1, 24, 25, GREATEST});
        sweep("drop", SHEET);
        sweep("item", SHEET, LANE, PLACE, new int[] {LEAST, -1, 0, 18, 19, 256, 65536, GREATEST});
        sweep("copy", from, PLACE, from, PLACE, new int[] {-1, 0, 1, 6, 7, GREATEST});
    }

    private static void sweep(String name, int[]... edges) {
        long[] numbers = new long[edges.length];
        int all = 1;
        for (int[] some : edges) {
            all *= some.length;
        }
        for (int k = 0; k < all; k++) {
            int left = k;
            for (int place = 0; place < edges.length; place++) {
                numbers[place] = edges[place][left % edges[place].length];
                left /= edges[place].length;
            }
            oneCall(name, numbers);
        }
    }

    private static void oneCall(String name, long[] numbers) {
        RestRegisters x = inState(new RestRegisters());
        SlowModel model = inState(new SlowModel());
        String text = state + ": " + Calls.text(name, numbers);
        int answer = Calls.call(x, name, numbers);
        Due.due(text, answer, Calls.call(model, name, numbers));
        boolean stays = answer < 0 && !name.equals("set") || !DOING.contains(name);
        int[] behind = stays ? before : Midway.found(model);
        Due.holds(text + (stays ? " changes nothing" : " changes what it does there"), Arrays.equals(Midway.found(x), behind));
    }
}
