import java.util.Arrays;

/** The sentences of promises 1 to 35, one after another, each with a test of its own at its boundaries. */
public final class BoundariesTest {
    private static final int BAD = -1, NOT = -2, FULL = -3, NONE = -4, NULL = -11, CAST = -12, INDEX = -13, SIZE = -14;
    private static final int LEAST = Integer.MIN_VALUE, GREATEST = Integer.MAX_VALUE;
    private static final String WIDEST = "p19,p17,p16,p15;p13,p11";
    private static final int WIDEST_RANGE = 77520, WIDEST_SPAN = 11085360;
    /** Of Midway's object. */
    private static final int WHEELS = 5, SPAN = 2310;

    private BoundariesTest() {
    }

    public static void main(String[] args) {
        Sentences s = new Sentences();
        newTypeSet(s);
        ofRestAt(s);
        showsCount(s);
        layAddTimesNegate(s);
        slipTake(s);
        driftUndoSeed(s);
        figureOrderBlame(s);
        nearestApartSum(s);
        againShouldUnseen(s);
        imageRestore(s);
        rubbed(s);
        seen(s);
        film(s);
        sheetDrop(s);
        item(s);
        copy(s);
        s.allUnder("Promise ");
        s.end("BoundariesTest");
    }

    private static void due(String call, long got, long want) {
        Due.due(call, got, want);
    }

    private static RestRegisters with(String text) {
        return Due.with(text);
    }

    /** What is just outside of 0 .. bound less 1, and what is farthest off. */
    private static int[] outside(int bound) {
        return new int[] {-1, bound, LEAST, GREATEST};
    }

    private static void bad(String name, long... numbers) {
        Midway.refused(BAD, name, numbers);
    }

    /** The call is BAD, whatever its other numbers, if the one at a place is not below the bound. */
    private static void badOutside(int bound, int place, String name, long... numbers) {
        for (int odd : outside(bound)) {
            long[] call = numbers.clone();
            call[place] = odd;
            bad(name, call);
        }
    }

    /** Items 0 .. 18 of a row, with one wheel of 19. */
    private static void row(RestRegisters x, int sheet, int lane, int... want) {
        for (int i = 0; i < want.length; i++) {
            due("item " + i + " of sheet " + sheet, x.rubbed(sheet, lane, i, 1), want[i]);
        }
    }

    private static void same(String what, RestRegisters x, RestRegisters twin) {
        Due.holds(what, Arrays.equals(Midway.found(x), Midway.found(twin)));
    }

    private static void newTypeSet(Sentences s) {
        s.under("Promise 1: A new object");
        s.test("No wheels.", () -> {
            RestRegisters x = new RestRegisters();
            due("wheels", x.count(0), 0);
            due("HONEST ones", x.count(1), 0);
            for (int wheel : new int[] {-1, 0, 1, 5}) {
                due("of", x.of(wheel, 0), BAD);
                due("rest", x.rest(0, wheel), BAD);
                due("shows", x.shows(wheel, 0, 0, 0), BAD);
                due("slip", x.slip(0, wheel, 0), BAD);
                due("figure", x.figure(0, wheel), BAD);
                due("sum", x.sum(0, 0, 0, wheel), BAD);
                due("seen", x.seen(wheel, 0, 0, 0, 1), BAD);
            }
        });
        s.under("Promise 2: type");
        s.test("One letter more behind THE TAPE: how many it has.", () -> {
            RestRegisters x = new RestRegisters();
            String text = "p2,p3,p5,p7;p11,p13";
            for (int k = 0; k < text.length(); k++) {
                due("letter " + k, x.type(text.charAt(k)), k + 1);
            }
            due("set", x.set(), 6);
            due("the first letter again", x.type(' '), 1);
        });
        s.test("BAD: not 32 .. 126;", () -> {
            for (int letter = -3; letter <= 300; letter++) {
                due("type(" + letter + ")", new RestRegisters().type(letter), letter >= 32 && letter <= 126 ? 1 : BAD);
            }
            for (int letter : new int[] {31, 127, -1, 256 + 'p', 65536 + 'p', LEAST, LEAST + 'p', GREATEST}) {
                bad("type", letter);
            }
        });
        s.test("FULL: 40.", () -> {
            RestRegisters x = fullTape();
            due("the 40th letter has been taken", x.type('x'), FULL);
            due("again", x.type(' '), FULL);
            due("BAD all the same", x.type(31), BAD);
            due("what was refused is not on the tape", x.set(), 1);
            due("it is empty then", x.type('p'), 1);
            Midway.refusedOf(fullTape(), fullTape(), FULL, "type", 'x');
        });
        s.under("Promise 3: set");
        s.test("THE TAPE, which is empty then, is a SET: how many WHEELS.", () -> {
            String[] sets = {"p2", "p2,p3", "p2,p3,p5", "p2,p3,p5,p7", "p2,p3,p5,p7;p11", "p2,p3,p5,p7;p11,p13"};
            RestRegisters x = new RestRegisters();
            for (int k = 0; k < 6; k++) {
                due("set", Due.tell(x, sets[k]), k + 1);
                due("wheels", x.count(0), k + 1);
                due("the tape is empty", x.set(), -20);
                due("wheels", x.count(0), k + 1);
            }
        });
        s.test("A FAULT (all else stays).", () -> {
            for (String more : new String[] {"x", " 1", "0,", ",p14", ";p 7", "1"}) {
                RestRegisters x = Midway.made();
                for (char letter : more.toCharArray()) {
                    x.type(letter);
                }
                Due.holds("'p7" + more + "' is a fault", x.set() <= -20);
                due("the tape is empty", x.type('p'), 1);
                due("the tape as ahead", x.type('7'), 2);
                same("all else stays", x, Midway.made());
            }
        });
    }

    private static RestRegisters fullTape() {
        RestRegisters x = new RestRegisters();
        String text = "p7" + " ".repeat(38);
        for (int k = 0; k < 40; k++) {
            due("letter " + k, x.type(text.charAt(k)), k + 1);
        }
        return x;
    }

    private static void ofRestAt(Sentences s) {
        s.under("Promise 4: of");
        s.test("Of a WHEEL: 0 KIND, 1 WIDTH, 2 whether it is a CHECK (1, 0), 3 WRONG.", () -> {
            int[][] want = {{0, 2, 0, 0}, {1, 3, 0, 1}, {4, 11, 0, 66}, {2, 5, 1, 5}, {3, 7, 1, 18}};
            for (int wheel = 0; wheel < WHEELS; wheel++) {
                for (int what = 0; what < 4; what++) {
                    Midway.foretold(want[wheel][what], "of", wheel, what);
                }
            }
        });
        s.test("BAD.", () -> {
            badOutside(WHEELS, 0, "of", 0, 0);
            badOutside(WHEELS, 0, "of", 0, 3);
            badOutside(4, 1, "of", 0, 0);
            badOutside(4, 1, "of", 4, 0);
        });
        s.under("Promise 5: rest");
        s.test("The REST of a WHEEL of a REGISTER.", () -> {
            int[][] want = {{0, 0, 10, 2, 0}, {1, 1, 10, 3, 1}, {1, 2, 10, 0, 0}, {0, 0, 0, 0, 6}};
            for (int register = 0; register < 4; register++) {
                for (int wheel = 0; wheel < WHEELS; wheel++) {
                    Midway.foretold(want[register][wheel], "rest", register, wheel);
                }
            }
        });
        s.test("BAD.", () -> {
            badOutside(4, 0, "rest", 0, 0);
            badOutside(WHEELS, 1, "rest", 0, 0);
            badOutside(WHEELS, 1, "rest", 3, 0);
        });
        s.under("Promise 6: at");
        s.test("Of a REGISTER: 0 VALUE, 1 whether it is LEGAL (1, 0).", () -> {
            int[][] want = {{252, 0}, {43, 1}, {1715, 0}, {1980, 0}};
            for (int register = 0; register < 4; register++) {
                for (int what = 0; what < 2; what++) {
                    Midway.foretold(want[register][what], "at", register, what);
                }
            }
            RestRegisters x = with(WIDEST);
            x.lay(3, WIDEST_RANGE - 1);
            due("RANGE less 1", x.at(3, 1), 1);
            x.lay(3, WIDEST_RANGE);
            due("RANGE", x.at(3, 1), 0);
            x.lay(3, WIDEST_SPAN - 1);
            due("SPAN less 1", x.at(3, 0), WIDEST_SPAN - 1);
        });
        s.test("BAD.", () -> {
            badOutside(4, 0, "at", 0, 0);
            badOutside(4, 0, "at", 0, 1);
            badOutside(2, 1, "at", 1, 0);
        });
    }

    private static void showsCount(Sentences s) {
        s.under("Promise 7: shows");
        s.test("What a WHEEL shows of a and b: ADDED (what 0), TIMES (1).", () -> {
            // The greatest rests of p2, l3, z11, s5, w7.
            int[] added = {0, 0, 10, 3, 0};
            int[] times = {1, 0, 0, 1, 0};
            for (int wheel = 0; wheel < WHEELS; wheel++) {
                int most = Midway.made().of(wheel, 1) - 1;
                Midway.foretold(added[wheel], "shows", wheel, most, most, 0);
                Midway.foretold(times[wheel], "shows", wheel, most, most, 1);
                Midway.foretold(0, "shows", wheel, 0, 0, 0);
                Midway.foretold(0, "shows", wheel, 0, most, 1);
                Midway.foretold(0, "shows", wheel, most, 0, 1);
                Midway.foretold(most, "shows", wheel, most, 0, 0);
            }
        });
        s.test("BAD: RESTS, too.", () -> {
            int[] widths = {2, 3, 11, 5, 7};
            for (int wheel = 0; wheel < WHEELS; wheel++) {
                badOutside(widths[wheel], 1, "shows", wheel, 0, 0, 0);
                badOutside(widths[wheel], 2, "shows", wheel, 0, 0, 0);
                badOutside(widths[wheel], 1, "shows", wheel, 0, 1, 1);
                badOutside(widths[wheel], 2, "shows", wheel, 1, 0, 1);
            }
            badOutside(WHEELS, 0, "shows", 0, 0, 0, 0);
            badOutside(2, 3, "shows", 0, 0, 0, 0);
        });
        s.under("Promise 8: count");
        s.test("0 WHEELS, 1 HONEST ones, 2 RANGE, 3 SPAN, 4 REGISTERS that are LEGAL (a set), 5 WHEELS that are PLAIN (a set), 6 "
                + "what may be UNDONE.", () -> {
            int[] none = {0, 0, 1, 1, 15, 0, 0};
            int[] midway = {5, 3, 66, 2310, 2, 1, 6};
            int[] widest = {6, 4, WIDEST_RANGE, WIDEST_SPAN, 15, 63, 0};
            for (int what = 0; what < 7; what++) {
                due("of a new one, what " + what, new RestRegisters().count(what), none[what]);
                Midway.foretold(midway[what], "count", what);
                due("of the widest, what " + what, with(WIDEST).count(what), widest[what]);
            }
        });
        s.test("BAD.", () -> badOutside(7, 0, "count", 0));
    }

    private static void layAddTimesNegate(Sentences s) {
        s.under("Promise 9: lay");
        s.test("LAID (0 .. SPAN less 1): VALUE it had.", () -> {
            RestRegisters x = with(WIDEST);
            for (int register = 0; register < 4; register++) {
                due("the greatest", x.lay(register, WIDEST_SPAN - 1), 0);
                due("the least", x.lay(register, 0), WIDEST_SPAN - 1);
                due("the same", x.lay(register, 0), 0);
            }
            due("each is done", x.count(6), 8);
            RestRegisters none = new RestRegisters();
            due("no wheels: 0", none.lay(3, 0), 0);
            due("no wheels: 1", none.lay(3, 1), BAD);
            due("no wheels: -1", none.lay(3, -1), BAD);
        });
        s.test("BAD.", () -> {
            badOutside(4, 0, "lay", 0, 0);
            badOutside(SPAN, 1, "lay", 0, 0);
            badOutside(SPAN, 1, "lay", 3, 0);
        });
        s.under("Promise 10: add");
        s.test("ADDED to a REGISTER: VALUE then.", () -> {
            RestRegisters x = with("p19,p17,p16;p15");
            int span = 19 * 17 * 16 * 15;
            x.lay(0, span - 1);
            x.lay(1, 1);
            due("SPAN less 1, and 1: it wraps", x.add(0, 1), 0);
            due("0, and 0", x.add(0, 2), 0);
            x.lay(0, span - 1);
            due("SPAN less 1 to itself", x.add(0, 0), span - 2);
            due("the other one stays", x.at(1, 0), 1);
            due("no wheels", new RestRegisters().add(3, 3), 0);
        });
        s.test("BAD.", () -> {
            badOutside(4, 0, "add", 0, 1);
            badOutside(4, 1, "add", 1, 0);
        });
        s.under("Promise 11: times");
        s.test("TIMES: VALUE then.", () -> {
            RestRegisters x = with(WIDEST);
            x.lay(0, WIDEST_SPAN - 1);
            due("SPAN less 1 by itself: it wraps", x.times(0, 0), 1);
            x.lay(1, WIDEST_SPAN - 1);
            due("by 1", x.times(1, 0), WIDEST_SPAN - 1);
            due("by 0", x.times(1, 2), 0);
            due("0 by something", x.times(2, 0), 0);
            due("no wheels", new RestRegisters().times(0, 3), 0);
            RestRegisters odd = Midway.made();
            // 0 by 1; 0 by 1; 10 is lazy; 2, 2, 2 of s5; 0 by 1.
            due("252 by 43", odd.times(0, 1), 1386);
            Due.rests(odd, 0, 0, 0, 0, 1, 0);
        });
        s.test("BAD.", () -> {
            badOutside(4, 0, "times", 0, 1);
            badOutside(4, 1, "times", 1, 0);
        });
        s.under("Promise 12: negate");
        s.test("TURNED about: VALUE then.", () -> {
            RestRegisters x = with(WIDEST);
            due("0 stays 0", x.negate(3), 0);
            x.lay(3, 1);
            due("1", x.negate(3), WIDEST_SPAN - 1);
            due("SPAN less 1", x.negate(3), 1);
            x.lay(3, WIDEST_RANGE);
            due("RANGE", x.negate(3), WIDEST_SPAN - WIDEST_RANGE);
            due("no wheels", new RestRegisters().negate(0), 0);
            due("also of wheels that are not PLAIN", Midway.made().negate(2), SPAN - 1715);
        });
        s.test("BAD.", () -> badOutside(4, 0, "negate", 0));
    }

    private static void slipTake(Sentences s) {
        s.under("Promise 13: slip");
        s.test("SLIPPED: the REST it was.", () -> {
            RestRegisters x = with(WIDEST);
            for (int wheel = 0; wheel < 6; wheel++) {
                int most = x.of(wheel, 1) - 1;
                due("to the greatest", x.slip(3, wheel, most), 0);
                due("to the least", x.slip(3, wheel, 0), most);
                due("by one", x.slip(3, wheel, 1), 0);
            }
            due("1 at all wheels", x.at(3, 0), 1);
        });
        s.test("BAD;", () -> {
            int[] widths = {2, 3, 11, 5, 7};
            for (int wheel = 0; wheel < WHEELS; wheel++) {
                badOutside(widths[wheel], 2, "slip", 1, wheel, 0);
            }
            badOutside(4, 0, "slip", 0, 0, 1);
            badOutside(WHEELS, 1, "slip", 0, 0, 1);
        });
        s.test("NOT: it is so.", () -> {
            int[][] shown = {{0, 0, 10, 2, 0}, {1, 1, 10, 3, 1}, {1, 2, 10, 0, 0}, {0, 0, 0, 0, 6}};
            for (int register = 0; register < 4; register++) {
                for (int wheel = 0; wheel < WHEELS; wheel++) {
                    Midway.refused(NOT, "slip", register, wheel, shown[register][wheel]);
                }
            }
        });
        s.under("Promise 14: take");
        s.test("TAKEN over from another one: VALUE then.", () -> {
            RestRegisters x = with(WIDEST);
            x.lay(0, WIDEST_SPAN - 1);
            due("the greatest", x.take(3, 0), WIDEST_SPAN - 1);
            due("the least", x.take(0, 1), 0);
            due("from 3", x.take(1, 3), WIDEST_SPAN - 1);
            due("what is alike already", x.take(1, 3), WIDEST_SPAN - 1);
            due("each is done", x.count(6), 5);
            due("no wheels", new RestRegisters().take(0, 3), 0);
        });
        s.test("BAD: alike numbers, too.", () -> {
            for (int register = -1; register <= 4; register++) {
                bad("take", register, register);
            }
            badOutside(4, 0, "take", 0, 1);
            badOutside(4, 1, "take", 1, 0);
            Midway.refusedOf(new RestRegisters(), new RestRegisters(), BAD, "take", 2, 2);
        });
    }

    private static void driftUndoSeed(Sentences s) {
        s.under("Promise 15: drift");
        s.test("A DRIFT of n turns (1 .. 40; each may be UNDONE):", () -> {
            for (int n : new int[] {1, 2, 7, 8, 9, 39, 40}) {
                RestRegisters x = with("p19,l17;s16");
                RestRegisters turns = with("p19,l17;s16");
                for (int register = 0; register < 4; register++) {
                    x.lay(register, 5000 + register);
                    turns.lay(register, 5000 + register);
                }
                Due.holds("drift(" + n + ")", x.drift(n) >= 0);
                for (int turn = 0; turn < n; turn++) {
                    turns.drift(1);
                }
                due("known", x.count(6), Math.min(4 + n, 8));
                same("n turns are n times one", x, turns);
            }
        });
        s.test("which are LEGAL then (a set).", () -> {
            due("no wheels", new RestRegisters().drift(1), 15);
            due("no checks", with("p19,p17").drift(40), 15);
            RestRegisters x = with("p2;p19,p17");
            for (int turn = 0; turn < 60; turn++) {
                int legal = x.drift(1);
                due("turn " + turn, legal, x.count(4));
                due("turn " + turn, legal, x.at(0, 1) + 2 * x.at(1, 1) + 4 * x.at(2, 1) + 8 * x.at(3, 1));
            }
        });
        s.test("BAD.", () -> {
            for (int n : new int[] {0, 41, -1, LEAST, GREATEST}) {
                bad("drift", n);
            }
        });
        s.under("Promise 16: undo");
        s.test("UNDONE: how many more may be.", () -> {
            RestRegisters x = Midway.made();
            for (int more = 5; more >= 0; more--) {
                due("undo", x.undo(), more);
                due("what may be UNDONE", x.count(6), more);
            }
            due("all is undone: the draw", x.seed(0), 5);
            for (int register = 0; register < 4; register++) {
                due("all is undone", x.at(register, 0), 0);
            }
            RestRegisters full = with("p19");
            full.drift(9);
            due("of eight seven more", full.undo(), 7);
        });
        s.test("NONE: none is known.", () -> {
            Midway.refusedOf(new RestRegisters(), new RestRegisters(), NONE, "undo");
            Midway.refusedOf(allUndone(), allUndone(), NONE, "undo");
        });
        s.under("Promise 17: seed");
        s.test("THE DRAW becomes v: what it was.", () -> {
            RestRegisters x = new RestRegisters();
            due("1 at first", x.seed(0), 1);
            due("the least", x.seed(GREATEST), 0);
            due("the greatest", x.seed(7), GREATEST);
            due("a seed is nothing to be UNDONE", x.count(6), 0);
            due("undo", x.undo(), NONE);
        });
        s.test("BAD: below 0.", () -> {
            bad("seed", -1);
            bad("seed", LEAST);
            Midway.refusedOf(new RestRegisters(), new RestRegisters(), BAD, "seed", -1);
        });
    }

    private static RestRegisters allUndone() {
        RestRegisters x = with("p7");
        x.lay(0, 3);
        x.undo();
        return x;
    }

    private static void figureOrderBlame(Sentences s) {
        s.under("Promise 18: figure");
        s.test("FIGURE k (0 .. WHEELS less 1).", () -> {
            // 1715 of 2, 3, 11, 5, 7: 1; 857 leaves 2; 285 leaves 10; 25 leaves 0; 5.
            int[] want = {1, 2, 10, 0, 5};
            for (int k = 0; k < WHEELS; k++) {
                Midway.foretold(want[k], "figure", 2, k);
            }
            RestRegisters x = with(WIDEST);
            x.lay(0, WIDEST_SPAN - 1);
            int[] greatest = {18, 16, 15, 14, 12, 10};
            for (int k = 0; k < 6; k++) {
                due("figure " + k + " of the greatest", x.figure(0, k), greatest[k]);
                due("figure " + k + " of 0", x.figure(1, k), 0);
            }
        });
        s.test("BAD.", () -> {
            badOutside(4, 0, "figure", 0, 0);
            badOutside(WHEELS, 1, "figure", 0, 0);
        });
        s.under("Promise 19: order");
        s.test("ORDER.", () -> {
            int[] values = {252, 43, 1715, 1980};
            for (int register = 0; register < 4; register++) {
                for (int other = 0; other < 4; other++) {
                    Midway.foretold(1 + Integer.compare(values[register], values[other]), "order", register, other);
                }
            }
        });
        s.test("BAD.", () -> {
            badOutside(4, 0, "order", 0, 0);
            badOutside(4, 1, "order", 0, 0);
        });
        s.under("Promise 20: blame");
        s.test("BLAME (a set).", () -> {
            // 252 by 210 leaves 42 (the 11); 1715 by 210 leaves 35, by 330 leaves 65 (the 11, the 7); 1980 by 330 leaves 0 (the 7).
            int[] want = {4, 0, 20, 16};
            for (int register = 0; register < 4; register++) {
                Midway.foretold(want[register], "blame", register);
            }
            due("no wheels", new RestRegisters().blame(0), 0);
            RestRegisters honest = with("p2,p3");
            honest.lay(0, 5);
            due("no checks", honest.blame(0), 0);
        });
        s.test("BAD.", () -> badOutside(4, 0, "blame", 0));
    }

    private static void nearestApartSum(Sentences s) {
        s.under("Promise 21: nearest");
        s.test("NEAREST: which (what 0), how many (1).", () -> {
            int[][] want = {{42, 1}, {43, 0}, {35, 1}, {0, 1}};
            for (int register = 0; register < 4; register++) {
                for (int what = 0; what < 2; what++) {
                    Midway.foretold(want[register][what], "nearest", register, what);
                }
            }
            due("no wheels: which", new RestRegisters().nearest(3, 0), 0);
            due("no wheels: how many", new RestRegisters().nearest(3, 1), 0);
            RestRegisters x = with(WIDEST);
            x.lay(0, WIDEST_RANGE - 1);
            due("RANGE less 1: which", x.nearest(0, 0), WIDEST_RANGE - 1);
            due("RANGE less 1: how many", x.nearest(0, 1), 0);
            x.lay(0, WIDEST_RANGE);
            due("RANGE: how many", x.nearest(0, 1), 2);
            due("RANGE: which, as all HONEST ones show 0", x.nearest(0, 0), 0);
        });
        s.test("BAD.", () -> {
            badOutside(4, 0, "nearest", 0, 0);
            badOutside(4, 0, "nearest", 0, 1);
            badOutside(2, 1, "nearest", 0, 0);
        });
        s.under("Promise 22: apart");
        s.test("APART;", () -> {
            // 30 apart, the 2, the 3 and the 5 have the same rests; four of them take 210, which is not below 66.
            Midway.foretold(2, "apart");
            due("one wheel", with("z19").apart(), 1);
            due("no check", with("p2,p3,p5,p7").apart(), 1);
            due("as RANGE itself: not below it", with("p6;p5,p7").apart(), 2);
            due("greater than RANGE", with("p4;p5,p7").apart(), 3);
        });
        s.test("NONE.", () -> {
            Midway.refusedOf(new RestRegisters(), new RestRegisters(), NONE, "apart");
            due("with the least RANGE, 2, there are two numbers", with("p2").apart(), 1);
        });
        s.under("Promise 23: sum");
        s.test("SUM: the REST of a WHEEL.", () -> {
            int[] once = {1, 1, 10, 0, 1};
            int[] thousand = {0, 1, 10, 2, 0};
            for (int wheel = 0; wheel < WHEELS; wheel++) {
                Midway.foretold(Midway.made().rest(0, wheel), "sum", 0, 1, 0, wheel);
                Midway.foretold(once[wheel], "sum", 0, 1, 1, wheel);
                Midway.foretold(thousand[wheel], "sum", 0, 1, 1000, wheel);
            }
        });
        s.test("BAD.", () -> {
            badOutside(4, 0, "sum", 0, 0, 1, 0);
            badOutside(4, 1, "sum", 0, 0, 1, 0);
            badOutside(1001, 2, "sum", 0, 0, 1, 0);
            badOutside(WHEELS, 3, "sum", 0, 0, 1, 0);
            badOutside(WHEELS, 3, "sum", 0, 0, 0, 0);
        });
    }

    private static void againShouldUnseen(Sentences s) {
        s.under("Promise 24: again");
        s.test("AGAIN;", () -> {
            // 0 1 0; 0 1 2 0; 10 stays; 2 0 3 1 4 2; 0 1 0: behind 2, 3, 1, 5, 2.
            Midway.foretold(30, "again", 0, 1);
            due("no wheels", new RestRegisters().again(0, 0), 1);
            RestRegisters x = with("p19,p15,p7");
            x.lay(2, 1);
            due("1995", x.again(3, 2), 1995);
            due("0 is ADDED", x.again(2, 3), 1);
        });
        s.test("NONE.", () -> {
            RestRegisters more = with("p14,p13,p11");
            more.lay(1, 1);
            due("2002", more.again(0, 1), NONE);
            RestRegisters never = with("w19,p2");
            never.lay(0, 3);
            never.lay(1, 3);
            // Alike: 0, then 3, then 0: behind two; by 4: 3 7 11 15 0 4 0 4, never 3 again.
            due("alike", never.again(0, 1), 2);
            never.lay(1, 4);
            due("never", never.again(0, 1), NONE);
        });
        s.test("BAD.", () -> {
            badOutside(4, 0, "again", 0, 0);
            badOutside(4, 1, "again", 0, 0);
        });
        s.under("Promise 25: should");
        s.test("SHOULD (a set).", () -> {
            // 43 to 252: 10 to 10 of z11 is 10, not 9; no 1 of s5; 0 and 1 of w7.
            Midway.foretold(4, "should", 0, 1);
            // 252 to 43: of s5 2 is ADDED.
            Midway.foretold(4, "should", 1, 0);
            // 1715 to itself: 2 and 2 of l3 is 0, not 1; 10 and 10; 0 and 0.
            Midway.foretold(6, "should", 2, 2);
            // 1980 to itself: 6 and 6 of w7 is 0, not 5.
            Midway.foretold(16, "should", 3, 3);
            due("no wheels", new RestRegisters().should(0, 0), 0);
        });
        s.test("BAD.", () -> {
            badOutside(4, 0, "should", 0, 0);
            badOutside(4, 1, "should", 0, 0);
        });
        s.under("Promise 26: unseen");
        s.test("UNSEEN: above (what 0), below (1).", () -> {
            Midway.foretold(0, "unseen", 1, 0, 0);
            Midway.foretold(1, "unseen", 1, 0, 1);
            // 44 by all alone: 3 of 10 five times.
            Midway.foretold(243, "unseen", 1, 3, 0);
            Midway.foretold(100000, "unseen", 1, 3, 1);
            Midway.foretold(1, "unseen", 1, 10, 0);
            Midway.foretold(1, "unseen", 1, 10, 1);
            Midway.foretold(0, "unseen", 0, 10, 0);
            Midway.foretold(1, "unseen", 0, 10, 1);
            RestRegisters x = with(WIDEST);
            // All six turn (1), or those of 17 and 11 alone (59280): 1 and 6561 of a million.
            due("six wheels: above", x.unseen(0, 1, 0), 3281);
            due("six wheels: below", x.unseen(0, 1, 1), 500000);
            due("no wheels: above", new RestRegisters().unseen(0, 10, 0), 0);
            due("no wheels: below", new RestRegisters().unseen(0, 10, 1), 1);
        });
        s.test("BAD.", () -> {
            badOutside(4, 0, "unseen", 0, 3, 0);
            badOutside(4, 0, "unseen", 0, 3, 1);
            badOutside(11, 1, "unseen", 0, 3, 0);
            badOutside(2, 2, "unseen", 0, 3, 0);
        });
    }

    private static void imageRestore(Sentences s) {
        s.under("Promise 27: image");
        s.test("All but SHEETS, THE TAPE is kept as an IMAGE: 1.", () -> {
            RestRegisters x = Midway.made();
            due("image", x.image(), 1);
            due("image, in place of it", x.image(), 1);
            for (int sheet = 1; sheet < 4; sheet++) {
                x.drop(sheet);
            }
            due("a sheet more", x.sheet(0, 1, 4), 4);
            due("a letter more", x.type(','), 3);
            x.drift(40);
            x.seed(3);
            due("restore", x.restore(), 1);
            due("the value", x.at(2, 0), 1715);
            due("the draw", x.seed(77), 77);
            due("what may be UNDONE", x.count(6), 6);
            due("SHEETS are not kept", x.drop(1), NULL);
            due("SHEETS are not kept", x.drop(0), 4);
            due("THE TAPE is not kept", x.type('p'), 4);
            due("an image of a new object", new RestRegisters().image(), 1);
        });
        s.under("Promise 28: restore");
        s.test("All is as it was then: 1.", () -> {
            RestRegisters x = Midway.made();
            x.image();
            RestRegisters twin = Midway.made();
            twin.image();
            x.lay(0, 1);
            for (int k = 6; k >= 0; k--) {
                due("undo", x.undo(), k);
            }
            x.drift(3);
            due("a set of what is on the tape", x.set(), 1);
            x.drift(2);
            due("restore", x.restore(), 1);
            due("restore once more", x.restore(), 1);
            x.type('p');
            x.type('7');
            same("all is as it was then", x, twin);
            RestRegisters none = new RestRegisters();
            none.image();
            due("set", Due.tell(none, WIDEST), 6);
            due("an image of no wheels", none.restore(), 1);
            due("wheels", none.count(0), 0);
            due("RANGE", none.count(2), 1);
            due("SPAN", none.count(3), 1);
        });
        s.test("NONE: there is none.", () -> {
            Midway.refusedOf(new RestRegisters(), new RestRegisters(), NONE, "restore");
            Midway.refusedOf(fullTape(), fullTape(), NONE, "restore");
            RestRegisters x = with("p7");
            x.lay(0, 3);
            due("none", x.restore(), NONE);
            due("it stays", x.at(0, 0), 3);
            due("it stays", x.count(6), 1);
        });
    }

    private static void rubbed(Sentences s) {
        s.under("Promise 29: rubbed");
        s.test("RUBBED by as many items of a SHEET as there are WHEELS, taken as a row of a LANE, from item i on: how many (what 0), "
                + "the least (1; NONE);", () -> {
            RestRegisters x = with("p2;p3");
            Due.fill(x, 0, 1, -1, -1, 1, 1, -1, 2);
            int[] many = {2, 1, 1, 1, 0};
            int[] least = {0, 1, 1, 1, NONE};
            for (int i = 0; i < 5; i++) {
                due("how many, from " + i, x.rubbed(0, 1, i, 0), many[i]);
                due("the least, from " + i, x.rubbed(0, 1, i, 1), least[i]);
            }
            due("from 5", x.rubbed(0, 1, 5, 0), INDEX);
            RestRegisters wide = with(WIDEST);
            Due.fill(wide, 3, 3, -1, -1, -1, -1, -1, -1);
            due("all rubbed out: how many", wide.rubbed(3, 3, 0, 0), WIDEST_RANGE);
            due("all rubbed out: the least", wide.rubbed(3, 3, 0, 1), 0);
            wide.lay(0, WIDEST_RANGE - 1);
            wide.film(0, 3, 3, 0);
            due("RANGE less 1: how many", wide.rubbed(3, 3, 0, 0), 1);
            due("RANGE less 1: the least", wide.rubbed(3, 3, 0, 1), WIDEST_RANGE - 1);
            wide.lay(0, WIDEST_RANGE);
            wide.film(0, 3, 3, 0);
            due("RANGE: how many", wide.rubbed(3, 3, 0, 0), 0);
            due("RANGE: the least", wide.rubbed(3, 3, 0, 1), NONE);
            RestRegisters none = new RestRegisters();
            none.sheet(0, 0, 2);
            due("no wheels: how many", none.rubbed(0, 0, 2, 0), 1);
            due("no wheels: the least", none.rubbed(0, 0, 2, 1), 0);
            due("no wheels: behind the end", none.rubbed(0, 0, 3, 1), INDEX);
            // Of 1 by 2, 2 by 3, 3 by 11 there is 47 alone, which leaves 2 by 5.
            Midway.foretold(0, "rubbed", 1, 0, 0, 0);
            Midway.foretold(NONE, "rubbed", 1, 0, 0, 1);
        });
        s.test("an item that is no REST, nor -1, fits none.", () -> {
            RestRegisters x = with("p2;p19");
            for (long odd : new long[] {2, -2, 1L << 32, (1L << 32) - 1, -(1L << 32) - 1, Long.MIN_VALUE, Long.MAX_VALUE}) {
                Due.fill(x, 0, 3, odd, -1, odd);
                for (int i = 0; i < (odd == 2 ? 1 : 2); i++) {
                    due(odd + ": how many", x.rubbed(0, 3, i, 0), 0);
                    due(odd + ": the least", x.rubbed(0, 3, i, 1), NONE);
                }
            }
            Due.fill(x, 1, 0, -1, 18, -1, 19);
            due("18 is a REST of 19, but of none below 2", x.rubbed(1, 0, 0, 0), 0);
            due("19 is none", x.rubbed(1, 0, 2, 0), 0);
            Due.fill(x, 1, 0, 255, 256);
            due("255 is -1, 256 is 0 of bytes", x.rubbed(1, 0, 0, 0), 1);
        });
        s.test("BAD; NULL; CAST; INDEX.", () -> {
            badOutside(4, 0, "rubbed", 0, 0, 0, 0);
            badOutside(4, 1, "rubbed", 1, 0, 0, 0);
            badOutside(2, 3, "rubbed", 1, 0, 0, 0);
            for (int lane = 0; lane < 4; lane++) {
                Midway.refused(NULL, "rubbed", 0, lane, 0, 0);
                Midway.refused(lane == 0 ? 0 : CAST, "rubbed", 1, lane, 0, 0);
                Midway.refused(lane == 2 ? INDEX : CAST, "rubbed", 2, lane, 0, 0);
            }
            // Six items, five wheels: from 0 and from 1 on.
            Midway.refused(0, "rubbed", 1, 0, 1, 0);
            badIndex(2, "rubbed", 2, 1, 0, 0, 0);
        });
    }

    /** INDEX for what is just outside and farthest off of 0 .. bound less 1. */
    private static void badIndex(int bound, String name, int place, long... numbers) {
        for (int odd : outside(bound)) {
            long[] call = numbers.clone();
            call[place] = odd;
            Midway.refused(INDEX, name, call);
        }
    }

    private static void seen(Sentences s) {
        s.under("Promise 30: seen");
        s.test("SEEN of a WHEEL by n times three items likewise (n 1 .. 8; what is no REST fits none).", () -> {
            RestRegisters x = with("p2;w7");
            x.sheet(0, 2, 24);
            for (int k = 0; k < 8; k++) {
                x.item(0, 2, 3 * k, 6);
            }
            for (int k = 0; k < 8; k++) {
                x.item(0, 2, 3 * k + 2, 6);
            }
            for (int n = 1; n <= 8; n++) {
                due("6 and 0 is 6, " + n + " times", x.seen(1, 0, 2, 0, n), 31);
            }
            due("6 is no REST of 2", x.seen(0, 0, 2, 0, 1), 0);
            x.item(0, 2, 22, 6);
            x.item(0, 2, 23, 5);
            due("the last, 6 and 6 is 5", x.seen(1, 0, 2, 0, 8), 5);
            due("without the last", x.seen(1, 0, 2, 0, 7), 31);
            due("the last alone", x.seen(1, 0, 2, 21, 1), 5);
            long[][] odd = {{7, 0, 0}, {0, 7, 0}, {0, 0, 7}, {-1, 0, 0}, {0, -1, 0}, {0, 0, -1}, {-1, 1, 0}, {1, -1, 0}};
            for (long[] three : odd) {
                Due.fill(x, 1, 1, three);
                due("no REST", x.seen(1, 1, 1, 0, 1), 0);
            }
            for (int place = 0; place < 3; place++) {
                Due.fill(x, 2, 3, 0, 0, 0);
                due("all 0", x.seen(1, 2, 3, 0, 1), 31);
                x.item(2, 3, place, 1L << 32);
                due("no REST by all its bits", x.seen(1, 2, 3, 0, 1), 0);
            }
        });
        s.test("BAD; NULL; CAST; INDEX.", () -> {
            badOutside(WHEELS, 0, "seen", 0, 1, 0, 0, 1);
            badOutside(4, 1, "seen", 0, 1, 0, 0, 1);
            badOutside(4, 2, "seen", 0, 1, 0, 0, 1);
            for (int n : new int[] {0, 9, -1, LEAST, GREATEST, 1 << 30, (GREATEST - 1) / 3 + 2}) {
                bad("seen", 0, 1, 0, 0, n);
            }
            for (int lane = 0; lane < 4; lane++) {
                Midway.refused(NULL, "seen", 4, 0, lane, 0, 1);
                Midway.refused(lane == 0 ? 31 : CAST, "seen", 4, 1, lane, 0, 1);
            }
            // 1 and 2 is 3 of all kinds; of six items two times three at most.
            Midway.foretold(31, "seen", 4, 1, 0, 0, 1);
            badIndex(4, "seen", 3, 4, 1, 0, 0, 1);
            badIndex(1, "seen", 3, 4, 1, 0, 0, 2);
            Midway.refused(INDEX, "seen", 4, 1, 0, 0, 3);
            Midway.refused(INDEX, "seen", 4, 3, 3, 0, 1);
        });
    }

    private static void film(Sentences s) {
        s.under("Promise 31: film");
        s.test("RESTS of a REGISTER, an item each, come to a SHEET likewise: how many.", () -> {
            RestRegisters x = with("p19,p17");
            x.lay(3, 18 + 19 * 15);
            for (int lane = 0; lane < 4; lane++) {
                Due.fill(x, lane, lane, 1, 2, 3, 4, 5);
                due("film at 0", x.film(0, lane, lane, 0), 2);
                due("film at the end", x.film(3, lane, lane, 3), 2);
            }
            int[] want = {0, 0, 3, x.rest(3, 0), x.rest(3, 1)};
            due("one wheel", Due.tell(x, "p19"), 1);
            for (int lane = 0; lane < 4; lane++) {
                row(x, lane, lane, want);
            }
            RestRegisters none = new RestRegisters();
            none.sheet(0, 0, 2);
            due("no wheels, at the end", none.film(0, 0, 0, 2), 0);
            due("no wheels, behind it", none.film(0, 0, 0, 3), INDEX);
        });
        s.test("BAD; NULL; CAST; INDEX.", () -> {
            badOutside(4, 0, "film", 0, 1, 0, 0);
            badOutside(4, 1, "film", 0, 1, 0, 0);
            badOutside(4, 2, "film", 0, 1, 0, 0);
            for (int lane = 0; lane < 4; lane++) {
                Midway.refused(NULL, "film", 0, 0, lane, 0);
                Midway.refused(lane == 2 ? INDEX : CAST, "film", 0, 2, lane, 0);
            }
            badIndex(2, "film", 3, 0, 1, 0, 0);
            badIndex(0, "film", 3, 0, 3, 3, 0);
        });
    }

    private static void sheetDrop(Sentences s) {
        s.under("Promise 32: sheet");
        s.test("A SHEET holds a new row of a LANE: n.", () -> {
            RestRegisters x = with("p19");
            for (int n = 0; n <= 24; n++) {
                due("sheet", x.sheet(2, n % 4, n), n);
                due("the item behind the last", x.item(2, n % 4, n, 1), INDEX);
                due("the last item is 0", n == 0 ? 0 : x.rubbed(2, n % 4, n - 1, 1), 0);
                due("the last item", n == 0 ? 1 : x.item(2, n % 4, n - 1, 7), 1);
            }
            Due.fill(x, 2, 0, 5, 5, 5);
            due("new, of the same lane", x.sheet(2, 0, 3), 3);
            row(x, 2, 0, 0, 0, 0);
            due("the others hold nothing", x.drop(1), NULL);
            due("the others hold nothing", x.drop(3), NULL);
        });
        s.test("BAD: also n above 24;", () -> {
            bad("sheet", 1, 0, 25);
            bad("sheet", 0, 0, 25);
            bad("sheet", 1, 0, GREATEST);
            badOutside(4, 0, "sheet", 0, 0, 1);
            badOutside(4, 1, "sheet", 1, 0, 1);
            badOutside(4, 0, "sheet", 0, 0, -1);
            badOutside(4, 1, "sheet", 1, 0, -1);
        });
        s.test("SIZE: n below 0.", () -> {
            for (int sheet = 0; sheet < 4; sheet++) {
                Midway.refused(SIZE, "sheet", sheet, sheet, -1);
                Midway.refused(SIZE, "sheet", sheet, sheet, LEAST);
            }
        });
        s.under("Promise 33: drop");
        s.test("A SHEET holds nothing: how many items it had.", () -> {
            RestRegisters x = new RestRegisters();
            for (int sheet = 0; sheet < 4; sheet++) {
                x.sheet(sheet, sheet, 0);
                due("0 items", x.drop(sheet), 0);
                due("nothing", x.drop(sheet), NULL);
                x.sheet(sheet, sheet, 24);
                due("24 items", x.drop(sheet), 24);
                due("nothing", x.item(sheet, sheet, 0, 0), NULL);
            }
        });
        s.test("BAD; NULL.", () -> {
            badOutside(4, 0, "drop", 0);
            Midway.refused(NULL, "drop", 0);
            Midway.refusedOf(new RestRegisters(), new RestRegisters(), NULL, "drop", 3);
        });
    }

    private static void item(Sentences s) {
        s.under("Promise 34: item");
        s.test("Item i of a SHEET, taken as a row of a LANE, becomes v, its lowest bits: 1.", () -> {
            RestRegisters x = with("p19");
            int[] bits = {8, 16, 32};
            for (int lane = 0; lane < 4; lane++) {
                Due.fill(x, 0, lane, 1, 2, 3);
                due("the first", x.item(0, lane, 0, 18), 1);
                due("the last", x.item(0, lane, 2, 17), 1);
                row(x, 0, lane, 18, 2, 17);
                for (int k = 0; k < 3; k++) {
                    for (long high : new long[] {1, -1, 6}) {
                        due("item", x.item(0, lane, 1, (high << bits[k]) + 9), 1);
                        due("lane " + lane + ", more than " + bits[k] + " bits", x.rubbed(0, lane, 1, 1), lane <= k ? 9 : NONE);
                    }
                    due("item", x.item(0, lane, 1, (1L << bits[k]) - 1), 1);
                    due("lane " + lane + ", -1 of " + bits[k] + " bits", x.rubbed(0, lane, 1, 0), lane <= k ? 19 : 0);
                }
                due("item", x.item(0, lane, 1, -1), 1);
                due("-1 is of all bits", x.rubbed(0, lane, 1, 0), 19);
                due("item", x.item(0, lane, 1, Long.MIN_VALUE), 1);
                due("the least", x.rubbed(0, lane, 1, 1), lane < 3 ? 0 : NONE);
                due("item", x.item(0, lane, 1, Long.MAX_VALUE), 1);
                due("the greatest", x.rubbed(0, lane, 1, 0), lane < 3 ? 19 : 0);
            }
        });
        s.test("BAD; NULL; CAST; INDEX.", () -> {
            badOutside(4, 0, "item", 0, 0, 0, 9);
            badOutside(4, 1, "item", 1, 0, 0, 9);
            for (int lane = 0; lane < 4; lane++) {
                Midway.refused(NULL, "item", 0, lane, 0, 9);
                if (lane != 0) {
                    Midway.refused(CAST, "item", 1, lane, 0, 9);
                }
            }
            badIndex(6, "item", 2, 1, 0, 0, 9);
            badIndex(3, "item", 2, 2, 2, 0, 9);
            badIndex(0, "item", 2, 3, 3, 0, 9);
        });
    }

    private static void copy(Sentences s) {
        s.under("Promise 35: copy");
        s.test("n items of a SHEET from i on come to another one (or the same) from j on, as if all were taken ahead: n.", () -> {
            for (int lane = 0; lane < 4; lane++) {
                RestRegisters x = with("p19");
                Due.fill(x, 0, lane, 1, 2, 3, 4, 5);
                Due.fill(x, 1, lane, 11, 12, 13);
                due("the last to the first", x.copy(0, 4, 1, 0, 1), 1);
                row(x, 1, lane, 5, 12, 13);
                due("as many as there are", x.copy(0, 2, 1, 0, 3), 3);
                row(x, 1, lane, 3, 4, 5);
                row(x, 0, lane, 1, 2, 3, 4, 5);
                due("onwards", x.copy(0, 0, 0, 1, 4), 4);
                row(x, 0, lane, 1, 1, 2, 3, 4);
                due("back", x.copy(0, 1, 0, 0, 4), 4);
                row(x, 0, lane, 1, 2, 3, 4, 4);
                due("to where it is", x.copy(0, 0, 0, 0, 5), 5);
                row(x, 0, lane, 1, 2, 3, 4, 4);
                due("none, at both ends", x.copy(0, 5, 1, 3, 0), 0);
                row(x, 1, lane, 3, 4, 5);
                x.sheet(2, lane, 24);
                x.sheet(3, lane, 24);
                x.item(2, lane, 23, 8);
                due("24 items", x.copy(2, 0, 3, 0, 24), 24);
                due("the last", x.rubbed(3, lane, 23, 1), 8);
                x.sheet(3, lane, 0);
                due("of an empty row", x.copy(3, 0, 3, 0, 0), 0);
            }
        });
        s.test("BAD;", () -> {
            badOutside(4, 0, "copy", 0, 0, 1, 0, 1);
            badOutside(4, 2, "copy", 1, 0, 0, 0, 1);
        });
        s.test("NULL (either);", () -> {
            Midway.refused(NULL, "copy", 0, 0, 1, 0, 1);
            Midway.refused(NULL, "copy", 1, 0, 0, 0, 1);
            Midway.refused(NULL, "copy", 0, 0, 0, 0, 0);
        });
        s.test("CAST: of unlike LANES;", () -> {
            Midway.refused(CAST, "copy", 1, 0, 2, 0, 1);
            Midway.refused(CAST, "copy", 2, 0, 1, 0, 1);
            Midway.refused(CAST, "copy", 1, 0, 3, 0, 0);
            for (int from = 0; from < 4; from++) {
                for (int to = 0; to < 4; to++) {
                    RestRegisters x = new RestRegisters();
                    x.sheet(0, from, 2);
                    x.sheet(1, to, 2);
                    due("lane " + from + " to lane " + to, x.copy(0, 0, 1, 0, 2), from == to ? 2 : CAST);
                }
            }
        });
        s.test("INDEX.", () -> {
            badIndex(7, "copy", 1, 1, 0, 1, 0, 0);
            badIndex(7, "copy", 3, 1, 0, 1, 0, 0);
            badIndex(6, "copy", 1, 1, 0, 1, 0, 1);
            badIndex(6, "copy", 3, 1, 0, 1, 0, 1);
            badIndex(7, "copy", 4, 1, 0, 1, 0, 0);
            badIndex(4, "copy", 4, 1, 3, 1, 0, 0);
            badIndex(4, "copy", 4, 1, 0, 1, 3, 0);
            Midway.refused(INDEX, "copy", 1, 6, 1, 6, 1);
            Midway.refused(INDEX, "copy", 1, GREATEST, 1, 0, GREATEST);
            Midway.refused(INDEX, "copy", 1, 0, 1, GREATEST, GREATEST);
            RestRegisters x = new RestRegisters();
            x.sheet(0, 0, 5);
            x.sheet(1, 0, 3);
            due("more than the other one has", x.copy(0, 0, 1, 0, 4), INDEX);
            due("more than the one has", x.copy(1, 0, 0, 0, 4), INDEX);
            due("as many as both have", x.copy(1, 0, 0, 2, 3), 3);
            due("behind the end of the other one", x.copy(1, 0, 0, 3, 3), INDEX);
        });
    }
}
