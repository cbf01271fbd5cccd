import java.util.Arrays;

/**
 * Objects in the middle of their work, and all that can be found out of one by calls: two of which the same is found
 * out are in the same state. It is found out by undoing, restoring and dropping, so the object is spent by it.
 */
final class Midway {
    /** RANGE 66, SPAN 2310; a wheel of each kind; another number of wheels than of registers. */
    static final String WHEELS = "p2,l3,z11;s5,w7";

    private Midway() {
    }

    /**
     * Six done (registers then hold 252, 43, 1715, 1980, of which 43 is LEGAL), an image of other wheels, the draw 77,
     * two letters on the tape; sheet 0 nothing, sheet 1 six bytes 1 .. 6, sheet 2 three ints 7, 8, 9, sheet 3 an empty
     * row of longs.
     */
    static <T> T made(T on) {
        Calls.tell(on, "p5,p2");
        Calls.call(on, "lay", 3, 9);
        Calls.call(on, "seed", 5);
        Calls.call(on, "lay", 2, 3);
        Calls.call(on, "image");
        Calls.tell(on, WHEELS);
        Calls.call(on, "lay", 0, 2309);
        Calls.call(on, "lay", 1, 43);
        Calls.call(on, "lay", 2, 65);
        Calls.call(on, "seed", 1234);
        Calls.call(on, "add", 0, 1);
        Calls.call(on, "slip", 3, 4, 6);
        Calls.call(on, "drift", 1);
        Calls.call(on, "seed", 77);
        Calls.call(on, "sheet", 1, 0, 6);
        for (int i = 0; i < 6; i++) {
            Calls.call(on, "item", 1, 0, i, i + 1);
        }
        Calls.call(on, "sheet", 2, 2, 3);
        for (int i = 0; i < 3; i++) {
            Calls.call(on, "item", 2, 2, i, i + 7);
        }
        Calls.call(on, "sheet", 3, 3, 0);
        Calls.call(on, "type", 'p');
        Calls.call(on, "type", '7');
        return on;
    }

    static RestRegisters made() {
        return made(new RestRegisters());
    }

    /** All that can be found out, in some 300 calls. */
    static int[] found(Object on) {
        Finder finder = new Finder(on);
        finder.bank();
        finder.past();
        finder.ask("set");
        finder.bank();
        finder.ask("restore");
        finder.bank();
        finder.past();
        Calls.tell(on, "p19");
        finder.sheets();
        return Arrays.copyOf(finder.answers, finder.many);
    }

    private static final class Finder {
        private final Object on;
        private final int[] answers = new int[600];
        private int many = 0;

        Finder(Object on) {
            this.on = on;
        }

        int ask(String name, long... numbers) {
            int answer = Calls.call(on, name, numbers);
            answers[many] = answer;
            many++;
            return answer;
        }

        void bank() {
            for (int what = 0; what < 7; what++) {
                ask("count", what);
            }
            int wheels = Calls.call(on, "count", 0);
            for (int wheel = 0; wheel < wheels; wheel++) {
                for (int what = 0; what < 3; what++) {
                    ask("of", wheel, what);
                }
                for (int register = 0; register < 4; register++) {
                    ask("rest", register, wheel);
                }
            }
            ask("seed", 0);
        }

        void past() {
            for (int k = 0; k < 9; k++) {
                ask("undo");
                for (int register = 0; register < 4; register++) {
                    ask("at", register, 0);
                }
                ask("seed", k);
            }
        }

        /** The lane is the one that is no CAST; only with one wheel of 19 are single items told. */
        void sheets() {
            for (int sheet = 0; sheet < 4; sheet++) {
                for (int lane = 0; lane < 4; lane++) {
                    if (ask("rubbed", sheet, lane, 0, 1) != RestRegisters.CAST) {
                        for (int i = 1; i < 8; i++) {
                            ask("rubbed", sheet, lane, i, 1);
                        }
                    }
                }
                ask("drop", sheet);
            }
        }
    }

    /** The call is refused as told, and nothing is changed. */
    static void refused(int want, String name, long... numbers) {
        refusedOf(made(), made(), want, name, numbers);
    }

    /** Two that are alike: the one is called, the other one tells what it was. */
    static void refusedOf(RestRegisters x, RestRegisters twin, int want, String name, long... numbers) {
        Due.due(Calls.text(name, numbers), Calls.call(x, name, numbers), want);
        Due.holds(Calls.text(name, numbers) + " changes nothing", Arrays.equals(found(x), found(twin)));
    }

    /** The call answers so, and nothing is changed. */
    static void foretold(int want, String name, long... numbers) {
        refused(want, name, numbers);
    }
}
