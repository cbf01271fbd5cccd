import java.util.Arrays;

/** The sentences of the document's Terms, one after another, each with a test of its own at its boundaries. */
public final class TermsTest {
    private static final int BAD = -1, NOT = -2, FULL = -3, NONE = -4, NULL = -11, CAST = -12, INDEX = -13, SIZE = -14;
    private static final int LEAST = Integer.MIN_VALUE, GREATEST = Integer.MAX_VALUE;
    private static final String WIDEST = "p19,p17,p16,p15;p13,p11";
    private static final int WIDEST_RANGE = 77520, WIDEST_SPAN = 11085360;
    private static final String KINDS = "plswz";

    private TermsTest() {
    }

    public static void main(String[] args) {
        Sentences s = new Sentences();
        s.under("Terms");
        answersBelowNought(s);
        wheelsAndRegisters(s);
        kinds(s);
        whatIsDone(s);
        foretold(s);
        blameNearestApart(s);
        sumAgainShouldWrong(s);
        unseen(s);
        rows(s);
        undone(s);
        drift(s);
        set(s);
        faults(s);
        theInterface(s);
        s.end("TermsTest");
    }

    private static void due(String call, long got, long want) {
        Due.due(call, got, want);
    }

    private static RestRegisters with(String text) {
        return Due.with(text);
    }

    private static void told(String text, int want) {
        due("set of '" + text + "'", Due.tell(new RestRegisters(), text), want);
    }

    private static int commonPart(int a, int b) {
        int part = 1;
        for (int k = 2; k <= a; k++) {
            part = a % k == 0 && b % k == 0 ? k : part;
        }
        return part;
    }

    private static void answersBelowNought(Sentences s) {
        s.test("Answers below 0, of several the first that a call names:", () -> {
            RestRegisters x = Midway.made();
            for (int letters = 3; letters <= 40; letters++) {
                due("type", x.type(' '), letters);
            }
            due("type: BAD ahead of FULL", x.type(127), BAD);
            due("slip: BAD ahead of NOT", x.slip(4, 0, 0), BAD);
            due("slip: BAD ahead of NOT", x.slip(0, 5, x.rest(0, 0)), BAD);
            due("sheet: BAD ahead of SIZE", x.sheet(4, 0, -1), BAD);
            due("sheet: BAD ahead of SIZE", x.sheet(0, 4, -1), BAD);
            for (int sheet = 0; sheet < 3; sheet++) {
                due("rubbed: BAD ahead of all, sheet " + sheet, x.rubbed(sheet, 4, -1, 0), BAD);
                due("rubbed: BAD ahead of all, sheet " + sheet, x.rubbed(sheet, 0, -1, 2), BAD);
                due("seen: BAD ahead of all, sheet " + sheet, x.seen(5, sheet, 0, -1, 1), BAD);
                due("seen: BAD ahead of all, sheet " + sheet, x.seen(0, sheet, 0, -1, 0), BAD);
                due("film: BAD ahead of all, sheet " + sheet, x.film(4, sheet, 0, -1), BAD);
                due("item: BAD ahead of all, sheet " + sheet, x.item(sheet, 4, -1, 0), BAD);
                due("copy: BAD ahead of all, sheet " + sheet, x.copy(sheet, -1, 4, -1, -1), BAD);
                due("copy: BAD ahead of all, sheet " + sheet, x.copy(4, -1, sheet, -1, -1), BAD);
            }
        });
        s.test("BAD -1 (a number is not as told, there is no such thing), NOT -2 (as told), FULL -3, NONE -4 (as told),", () -> {
            due("BAD", RestRegisters.BAD, -1);
            due("NOT", RestRegisters.NOT, -2);
            due("FULL", RestRegisters.FULL, -3);
            due("NONE", RestRegisters.NONE, -4);
            RestRegisters x = with("p7");
            due("a number is not as told", x.lay(0, 7), -1);
            due("there is no such thing", x.of(1, 0), -1);
            due("NOT", x.slip(0, 0, 0), -2);
            due("NONE", x.restore(), -4);
        });
        s.test("CAST -12 (of SHEETS another LANE);", () -> {
            due("CAST", RestRegisters.CAST, -12);
            for (int held = 0; held < 4; held++) {
                for (int taken = 0; taken < 4; taken++) {
                    RestRegisters x = with("p7");
                    x.sheet(0, held, 3);
                    x.sheet(1, taken, 3);
                    boolean alike = held == taken;
                    due("item, " + held + " as " + taken, x.item(0, taken, 0, 0), alike ? 1 : -12);
                    due("film, " + held + " as " + taken, x.film(0, 0, taken, 0), alike ? 1 : -12);
                    due("rubbed, " + held + " as " + taken, x.rubbed(0, taken, 0, 1), alike ? 0 : -12);
                    due("seen, " + held + " as " + taken, x.seen(0, 0, taken, 0, 1), alike ? 31 : -12);
                    due("copy, " + held + " to " + taken, x.copy(0, 0, 1, 0, 3), alike ? 3 : -12);
                }
            }
        });
        machineFinds(s);
        s.test("What is refused changes nothing, but as told.", TermsTest::refusedOfEachCall);
        s.test("Sets are bits.", () -> {
            RestRegisters x = with("s2,s3;s5,p7");
            due("all registers", x.count(4), 15);
            for (int register = 0; register < 4; register++) {
                due("slip", x.slip(register, 2, 1), 0);
                due("without register " + register, x.count(4), 15 - (1 << register));
                due("undo", x.undo(), 0);
            }
            due("the last wheel alone", x.count(5), 8);
            x.lay(0, 1);
            due("all but the last wheel", x.should(0, 0), 7);
            due("the first wheel", with("p19,l17,s16,w15;z13,l11").count(5), 1);
            due("all six wheels", with(WIDEST).count(5), 63);
        });
        s.test("What is divided is cut.", () -> {
            due("half of 5 is 2: LAZY of 2", with("z5").shows(0, 4, 2, 0), 1);
            due("half of 5 is 2: LAZY of 3", with("z5").shows(0, 4, 3, 0), 4);
            RestRegisters x = with("p2,p3,p5");
            x.lay(0, 29);
            due("29 by 2 is 14, by 3 is 4", x.figure(0, 2), 4);
            due("14 leaves 2", x.figure(0, 1), 2);
        });
    }

    private static void machineFinds(Sentences s) {
        s.test("what the machine finds: NULL -11, INDEX -13, SIZE -14 (NULL, CAST, INDEX, SIZE in this order).", () -> {
            due("NULL", RestRegisters.NULL, -11);
            due("INDEX", RestRegisters.INDEX, -13);
            due("SIZE", RestRegisters.SIZE, -14);
            RestRegisters x = Midway.made();
            due("NULL", x.drop(0), -11);
            due("INDEX", x.item(1, 0, 6, 0), -13);
            due("SIZE", x.sheet(0, 0, -1), -14);
            for (int i : new int[] {-1, 99, LEAST, GREATEST}) {
                for (int lane = 0; lane < 4; lane++) {
                    due("rubbed: NULL ahead of INDEX", x.rubbed(0, lane, i, 0), NULL);
                    due("seen: NULL ahead of INDEX", x.seen(0, 0, lane, i, 8), NULL);
                    due("film: NULL ahead of INDEX", x.film(0, 0, lane, i), NULL);
                    due("item: NULL ahead of INDEX", x.item(0, lane, i, 0), NULL);
                    boolean bytes = lane == 0;
                    due("rubbed: CAST ahead of INDEX", x.rubbed(1, lane, i, 0), bytes ? INDEX : CAST);
                    due("seen: CAST ahead of INDEX", x.seen(0, 1, lane, i, 8), bytes ? INDEX : CAST);
                    due("film: CAST ahead of INDEX", x.film(0, 1, lane, i), bytes ? INDEX : CAST);
                    due("item: CAST ahead of INDEX", x.item(1, lane, i, 0), bytes ? INDEX : CAST);
                }
                due("copy: NULL ahead of CAST, INDEX", x.copy(0, i, 1, i, 7), NULL);
                due("copy: NULL ahead of CAST, INDEX", x.copy(1, i, 0, i, 7), NULL);
                due("copy: CAST ahead of INDEX", x.copy(1, i, 2, i, 7), CAST);
                due("copy: CAST ahead of INDEX", x.copy(2, i, 3, i, -1), CAST);
                due("copy: INDEX", x.copy(1, i, 1, i, 7), INDEX);
            }
        });
    }

    /** Each call that may refuse, by each answer below 0 that it names; EdgesTest has many more. */
    private static void refusedOfEachCall() {
        Midway.refused(BAD, "type", 31);
        Midway.refused(BAD, "of", 5, 0);
        Midway.refused(BAD, "rest", 4, 0);
        Midway.refused(BAD, "at", 4, 0);
        Midway.refused(BAD, "shows", 0, 2, 0, 0);
        Midway.refused(BAD, "count", 7);
        Midway.refused(BAD, "lay", 0, 2310);
        Midway.refused(BAD, "add", 0, 4);
        Midway.refused(BAD, "times", 0, 4);
        Midway.refused(BAD, "negate", 4);
        Midway.refused(BAD, "slip", 0, 0, 2);
        Midway.refused(NOT, "slip", 3, 4, Midway.made().rest(3, 4));
        Midway.refused(BAD, "take", 1, 1);
        Midway.refused(BAD, "drift", 41);
        Midway.refused(BAD, "seed", -1);
        Midway.refused(BAD, "figure", 0, 5);
        Midway.refused(BAD, "order", 0, 4);
        Midway.refused(BAD, "blame", 4);
        Midway.refused(BAD, "nearest", 0, 2);
        Midway.refused(BAD, "sum", 0, 0, 1001, 0);
        Midway.refused(BAD, "again", 0, 4);
        Midway.refused(BAD, "should", 0, 4);
        Midway.refused(BAD, "unseen", 0, 11, 0);
        Midway.refused(BAD, "rubbed", 1, 0, 0, 2);
        Midway.refused(NULL, "rubbed", 0, 0, 0, 0);
        Midway.refused(CAST, "rubbed", 1, 1, 0, 0);
        Midway.refused(INDEX, "rubbed", 1, 0, 2, 0);
        Midway.refused(BAD, "seen", 0, 1, 0, 0, 9);
        Midway.refused(INDEX, "seen", 0, 1, 0, 1, 2);
        Midway.refused(BAD, "film", 4, 1, 0, 0);
        Midway.refused(NULL, "film", 0, 0, 0, 0);
        Midway.refused(CAST, "film", 0, 1, 2, 0);
        Midway.refused(INDEX, "film", 0, 1, 0, 2);
        Midway.refused(BAD, "sheet", 1, 0, 25);
        Midway.refused(SIZE, "sheet", 1, 0, -1);
        Midway.refused(BAD, "drop", 4);
        Midway.refused(NULL, "drop", 0);
        Midway.refused(CAST, "item", 1, 2, 0, 9);
        Midway.refused(INDEX, "item", 1, 0, 6, 9);
        Midway.refused(CAST, "copy", 1, 0, 2, 0, 1);
        Midway.refused(INDEX, "copy", 1, 0, 1, 5, 2);
        RestRegisters x = Midway.made();
        due("but as told: a fault", Due.tell(with("p2"), "x"), -20);
        due("the tape ahead", x.type('x'), 3);
        due("but as told: a fault", x.set(), -22);
        due("the tape is empty", x.type('p'), 1);
    }

    private static void wheelsAndRegisters(Sentences s) {
        s.test("==== 1 WHEELS 0 .. 5 (none at first),", () -> {
            due("none at first", new RestRegisters().of(0, 1), BAD);
            RestRegisters x = with(WIDEST);
            int[] widths = {19, 17, 16, 15, 13, 11};
            for (int wheel = 0; wheel <= 5; wheel++) {
                due("wheel " + wheel, x.of(wheel, 1), widths[wheel]);
            }
            for (int wheel : new int[] {-1, 6, LEAST, GREATEST}) {
                due("wheel " + wheel, x.of(wheel, 1), BAD);
            }
        });
        s.test("the HONEST ones (4 at most) ahead of the CHECKS (2 at most),", () -> {
            RestRegisters x = with(WIDEST);
            for (int wheel = 0; wheel <= 5; wheel++) {
                due("whether " + wheel + " is a CHECK", x.of(wheel, 2), wheel < 4 ? 0 : 1);
            }
            due("HONEST ones", x.count(1), 4);
            told("p2,p3,p5,p7,p11", -20 - 11);
            told("p2,p3,p5,p7,p11;p13", -20 - 11);
            told("p2;p3,p5,p7", -20 - 8);
            told("p2;p3,p5", 3);
            told("p2,p3,p5,p7", 4);
        });
        s.test("are of a KIND, have a WIDTH of 2 .. 19 (no two of them a common part but 1).", TermsTest::widths);
        s.test("REGISTERS 0 .. 3 show a REST for each WHEEL (0 .. WIDTH less 1; 0 at first).", () -> {
            RestRegisters x = with("p19,l2");
            for (int register = 0; register <= 3; register++) {
                Due.rests(x, register, 0, 0);
                due("to the greatest", x.slip(register, 0, 18), 0);
                due("to the least", x.slip(register, 0, 0), 18);
                due("too great", x.slip(register, 0, 19), BAD);
                due("too little", x.slip(register, 0, -1), BAD);
                due("to the greatest", x.slip(register, 1, 1), 0);
                due("too great", x.slip(register, 1, 2), BAD);
            }
            due("register 4", x.rest(4, 0), BAD);
            due("register -1", x.rest(-1, 0), BAD);
        });
        s.test("RANGE is the product of the WIDTHS of all HONEST ones, SPAN that of all WIDTHS (1, if there are none).", () -> {
            due("RANGE, none", new RestRegisters().count(2), 1);
            due("SPAN, none", new RestRegisters().count(3), 1);
            due("RANGE, the greatest", with(WIDEST).count(2), WIDEST_RANGE);
            due("SPAN, the greatest", with(WIDEST).count(3), WIDEST_SPAN);
            due("RANGE, the least", with("p2;p19").count(2), 2);
            due("SPAN, no checks", with("p2,p3").count(3), 6);
        });
        s.test("VALUE of a REGISTER: the number of 0 .. SPAN less 1 that has these RESTS (what is left over by each WIDTH).", () -> {
            RestRegisters x = with("w4,l3;z5");
            for (int number = 0; number < 60; number++) {
                x.lay(1, number);
                due("VALUE of " + number, x.at(1, 0), number);
                Due.rests(x, 1, number % 4, number % 3, number % 5);
            }
            RestRegisters y = with(WIDEST);
            for (int wheel = 0; wheel < 6; wheel++) {
                y.slip(3, wheel, y.of(wheel, 1) - 1);
            }
            due("the greatest rests", y.at(3, 0), WIDEST_SPAN - 1);
            due("no wheels", new RestRegisters().at(3, 0), 0);
        });
        s.test("It is LEGAL, if VALUE is below RANGE.", () -> {
            int[][] numbers = {{0, 1}, {WIDEST_RANGE - 1, 1}, {WIDEST_RANGE, 0}, {WIDEST_SPAN - 1, 0}};
            RestRegisters x = with(WIDEST);
            for (int[] two : numbers) {
                x.lay(0, two[0]);
                due("LEGAL of " + two[0], x.at(0, 1), two[1]);
            }
            RestRegisters honest = with("p2,p3");
            honest.lay(0, 5);
            due("no checks", honest.at(0, 1), 1);
        });
    }

    private static void widths() {
        for (int kind = 0; kind < 5; kind++) {
            for (int width = 0; width <= 25; width++) {
                RestRegisters x = new RestRegisters();
                boolean fits = width >= 2 && width <= 19;
                due(KINDS.charAt(kind) + " " + width, Due.tell(x, KINDS.charAt(kind) + "" + width), fits ? 1 : -21);
                due("KIND", x.of(0, 0), fits ? kind : BAD);
                due("WIDTH", x.of(0, 1), fits ? width : BAD);
            }
        }
        for (int one = 2; one <= 19; one++) {
            for (int two = 2; two <= 19; two++) {
                String head = "p" + one;
                boolean fits = commonPart(one, two) == 1;
                told(head + ",l" + two, fits ? 2 : -20 - head.length() - 2);
                told(head + ";s" + two, fits ? 2 : -20 - head.length() - 2);
            }
        }
        told("p2,p3,p5,p7;p11,p14", -20 - 17);
        told("p13,p3,p5,p7;p11,p13", -20 - 18);
    }

    /** Holds what a wheel of a kind and a width shows of all rests against a rule. */
    private interface Rule {
        int sum(int width, int a, int b);
    }

    private static void allSums(int kind, Rule rule) {
        for (int width = 2; width <= 19; width++) {
            RestRegisters x = with(KINDS.charAt(kind) + "" + width);
            for (int a = 0; a < width; a++) {
                for (int b = 0; b < width; b++) {
                    due("width " + width + ": " + a + " and " + b, x.shows(0, a, b, 0), rule.sum(width, a, b));
                }
            }
        }
    }

    private static int plain(int width, int a, int b) {
        return a + b >= width ? a + b - width : a + b;
    }

    private static int losing(int width, int a, int b) {
        return a + b < width ? a + b : a + b == width ? 0 : a + b - width - 1;
    }

    private static void shown(String set, int... threes) {
        RestRegisters x = with(set);
        for (int k = 0; k < threes.length; k += 3) {
            due(set + ": " + threes[k] + " and " + threes[k + 1], x.shows(0, threes[k], threes[k + 1], 0), threes[k + 2]);
        }
    }

    private static void kinds(Sentences s) {
        s.test("What a WHEEL shows, to whose REST a a REST b is ADDED, by KIND: 0 PLAIN: both together, left over by WIDTH.", () -> {
            shown("p7", 0, 0, 0, 3, 3, 6, 3, 4, 0, 4, 4, 1, 6, 6, 5);
            allSums(0, TermsTest::plain);
        });
        s.test("Below it 1 LOSING: as PLAIN; but 1 less (0 at least), if both together are WIDTH or more.", () -> {
            shown("l7", 0, 0, 0, 3, 3, 6, 3, 4, 0, 4, 4, 0, 4, 5, 1, 6, 6, 4);
            shown("l2", 1, 1, 0, 1, 0, 1);
            allSums(1, TermsTest::losing);
        });
        s.test("2 STICKING (below PLAIN): as PLAIN; but a, if b is 1.", () -> {
            shown("s7", 6, 0, 6, 6, 1, 6, 6, 2, 1, 1, 6, 0, 0, 1, 0);
            allSums(2, (width, a, b) -> b == 1 ? a : plain(width, a, b));
        });
        s.test("3 WORN (below LOSING): as LOSING; but 0, if a and b are alike.", () -> {
            shown("w7", 0, 0, 0, 3, 3, 0, 6, 6, 0, 5, 6, 3, 3, 2, 5, 4, 3, 0);
            allSums(3, (width, a, b) -> a == b ? 0 : losing(width, a, b));
        });
        s.test("4 LAZY (below STICKING): as STICKING; but a, if b is more than half of WIDTH.", () -> {
            shown("z7", 6, 1, 6, 6, 2, 1, 6, 3, 2, 6, 4, 6, 6, 6, 6);
            shown("z8", 7, 1, 7, 7, 4, 3, 7, 5, 7);
            allSums(4, (width, a, b) -> b == 1 || 2 * b > width ? a : plain(width, a, b));
        });
        s.test("TIMES: to 0, b times, a is ADDED so.", () -> {
            for (int width = 2; width <= 19; width++) {
                for (int kind = 0; kind < 5; kind++) {
                    for (int a = 0; a < width; a++) {
                        timesBySums(with(KINDS.charAt(kind) + "" + width), width, a);
                    }
                }
            }
        });
    }

    private static void timesBySums(RestRegisters x, int width, int a) {
        due(a + " times 0", x.shows(0, a, 0, 1), 0);
        int shown = 0;
        for (int b = 1; b < width; b++) {
            shown = x.shows(0, shown, a, 0);
            due(a + " times " + b, x.shows(0, a, b, 1), shown);
        }
    }

    private static void whatIsDone(Sentences s) {
        s.test("LAID: a REGISTER shows RESTS of a number.", () -> {
            RestRegisters x = with("p2,l3;s5,w7");
            x.lay(2, 209);
            Due.rests(x, 2, 1, 2, 4, 6);
            x.lay(2, 0);
            Due.rests(x, 2, 0, 0, 0, 0);
        });
        s.test("ADDED, TIMES: each REST of a REGISTER becomes what its WHEEL makes of it and that of another REGISTER (or the same).", () -> {
            for (int other = 0; other < 4; other++) {
                addedByWheels(other);
            }
        });
        s.test("TURNED about: each REST that is not 0 becomes WIDTH less it.", () -> {
            RestRegisters x = with("p2,l3;s5,w7");
            x.lay(0, 126);
            Due.rests(x, 0, 0, 0, 1, 0);
            x.negate(0);
            Due.rests(x, 0, 0, 0, 4, 0);
            x.lay(0, 209);
            x.negate(0);
            Due.rests(x, 0, 1, 1, 1, 1);
            x.negate(1);
            Due.rests(x, 1, 0, 0, 0, 0);
        });
        s.test("SLIPPED: one REST becomes another one.", () -> {
            RestRegisters x = with("p2,l3;s5,w7");
            x.slip(1, 2, 4);
            Due.rests(x, 1, 0, 0, 4, 0);
            Due.rests(x, 0, 0, 0, 0, 0);
            x.slip(1, 2, 0);
            Due.rests(x, 1, 0, 0, 0, 0);
        });
        s.test("TAKEN over: a REGISTER shows what another one does.", () -> {
            RestRegisters x = with("p2,l3;s5,w7");
            x.lay(3, 209);
            x.take(0, 3);
            Due.rests(x, 0, 1, 2, 4, 6);
            Due.rests(x, 3, 1, 2, 4, 6);
            x.lay(3, 0);
            Due.rests(x, 0, 1, 2, 4, 6);
        });
    }

    /** To register 1: by itself, if the other one is the same. */
    private static void addedByWheels(int other) {
        RestRegisters x = with("p9,l7,s5,w4;z11,p13");
        int[] numbers = {1, 180179, 4321, 8};
        for (int register = 0; register < 4; register++) {
            x.lay(register, numbers[register]);
        }
        int[][] want = new int[2][6];
        for (int wheel = 0; wheel < 6; wheel++) {
            for (int what = 0; what < 2; what++) {
                want[what][wheel] = x.shows(wheel, x.rest(1, wheel), x.rest(other, wheel), what);
            }
        }
        x.add(1, other);
        Due.rests(x, 1, want[0]);
        x.undo();
        x.times(1, other);
        Due.rests(x, 1, want[1]);
        for (int register = 0; register < 4; register++) {
            due("register " + register, register == 1 || x.at(register, 0) == numbers[register] ? 1 : 0, 1);
        }
    }

    private static void foretold(Sentences s) {
        s.test("==== 2 FORETOLD (nothing is changed).", () -> {
            RestRegisters x = Midway.made();
            for (int register = 0; register < 4; register++) {
                for (int other = 0; other < 4; other++) {
                    Midway.foretold(x.order(register, other), "order", register, other);
                    Midway.foretold(x.again(register, other), "again", register, other);
                    Midway.foretold(x.should(register, other), "should", register, other);
                    Midway.foretold(x.sum(register, other, 1000, 4), "sum", register, other, 1000, 4);
                }
                Midway.foretold(x.figure(register, 4), "figure", register, 4);
                Midway.foretold(x.blame(register), "blame", register);
                for (int what = 0; what < 2; what++) {
                    Midway.foretold(x.nearest(register, what), "nearest", register, what);
                    Midway.foretold(x.unseen(register, 3, what), "unseen", register, 3, what);
                }
            }
            Midway.foretold(x.apart(), "apart");
        });
        s.test("FIGURES of a REGISTER: VALUE is its figure 0, and figure 1 times the WIDTH of WHEEL 0, and figure 2 times the "
                + "WIDTHS of WHEELS 0, 1, and so on; figure k is below the WIDTH of WHEEL k.", () -> {
            RestRegisters x = with(WIDEST);
            int[] widths = {19, 17, 16, 15, 13, 11};
            for (int number : new int[] {0, 1, 18, 19, 322, 323, 77519, 77520, 1007759, 1007760, 11085359}) {
                x.lay(0, number);
                int all = 0;
                int place = 1;
                for (int k = 0; k < 6; k++) {
                    int figure = x.figure(0, k);
                    Due.holds("figure " + k + " of " + number + " is of 0 .. WIDTH less 1", figure >= 0 && figure < widths[k]);
                    all += figure * place;
                    place *= widths[k];
                }
                due("all figures", all, number);
            }
        });
        s.test("ORDER of two: 0, 1, 2: VALUE of the one is less than that of the other, as great, greater.", () -> {
            RestRegisters x = with(WIDEST);
            x.lay(0, 11085358);
            x.lay(1, 11085359);
            due("less by 1", x.order(0, 1), 0);
            due("greater by 1", x.order(1, 0), 2);
            due("the least and the greatest", x.order(2, 1), 0);
            due("both 0", x.order(2, 3), 1);
            due("itself", x.order(1, 1), 1);
        });
    }

    private static void blameNearestApart(Sentences s) {
        s.test("BLAME of a REGISTER that is not LEGAL: WHEELS (a set), for each of which by some other REST of it alone it "
                + "would be LEGAL (LEGAL: 0).", () -> {
            RestRegisters x = with("p4;p3");
            // By the 4 alone 3 is 0, 3, 6, 9; but it is LEGAL itself.
            for (int number = 0; number < 12; number++) {
                x.lay(0, number);
                due("BLAME of " + number, x.blame(0), number < 4 ? 0 : blameBySlips(x));
            }
            RestRegisters y = with("p7,p9,p10;p11,p13");
            y.lay(0, 629);
            due("RANGE less 1 is LEGAL", y.blame(0), 0);
            for (int wheel = 0; wheel < 5; wheel++) {
                y.slip(0, wheel, (y.rest(0, wheel) + 1) % y.of(wheel, 1));
                due("that one alone", y.blame(0), 1 << wheel);
                y.undo();
            }
            y.lay(0, 630);
            due("none alone", y.blame(0), 0);
        });
        s.test("NEAREST: the number below RANGE of which fewest RESTS, of all WHEELS, are other ones, of like ones the least: "
                + "which; how many.", () -> {
            RestRegisters x = with("p4;p3");
            int[] nearest = {0, 1, 2, 3, 0, 1, 0, 1, 0, 0, 1, 2};
            for (int number = 0; number < 12; number++) {
                x.lay(0, number);
                due("which, of " + number, x.nearest(0, 0), nearest[number]);
                due("how many, of " + number, x.nearest(0, 1), number < 4 ? 0 : 1);
            }
            RestRegisters y = with("p2;p19,p17");
            // 0 and 1 are other ones everywhere: 18 and 16 with 0 are nearer to 0 by the 2, with 1 to 1.
            y.lay(0, 645);
            Due.rests(y, 0, 1, 18, 16);
            due("all checks are other ones: which", y.nearest(0, 0), 1);
            due("all checks are other ones: how many", y.nearest(0, 1), 2);
        });
        s.test("APART: how many RESTS are other ones, at least, of two unlike numbers below RANGE (RANGE 1: none).", () -> {
            due("RANGE 1", new RestRegisters().apart(), NONE);
            due("RANGE 2", with("p2").apart(), 1);
            due("all three", with("p2;p3,p5").apart(), 3);
            due("5 and 0 of 6", with("p6;p5").apart(), 1);
            due("of 5, none is 6 apart", with("p5;p6").apart(), 2);
            due("the widest", with(WIDEST).apart(), 2);
        });
    }

    private static int blameBySlips(RestRegisters x) {
        int ones = 0;
        for (int wheel = 0; wheel < 2; wheel++) {
            for (int rest = 0; rest < x.of(wheel, 1); rest++) {
                if (x.slip(0, wheel, rest) != NOT) {
                    ones |= x.at(0, 1) << wheel;
                    x.undo();
                }
            }
        }
        return ones;
    }

    private static void sumAgainShouldWrong(Sentences s) {
        s.test("SUM of a REGISTER and another one, n times (0 .. 1000): the REST that a WHEEL would show, were that one (its "
                + "RESTS as they are now, also of one and the same) ADDED n times.", () -> {
            RestRegisters x = with("p7,w11;l13");
            x.lay(0, 1000);
            x.lay(1, 3);
            due("0 times", x.sum(0, 1, 0, 0), 6);
            due("1000 times", x.sum(0, 1, 1000, 0), (6 + 3000) % 7);
            due("1001 times", x.sum(0, 1, 1001, 0), BAD);
            due("-1 times", x.sum(0, 1, -1, 0), BAD);
            // 10 and 10 are alike, 0; then 10 (as it is now) again, not 0.
            due("the same, once", x.sum(0, 0, 1, 1), 0);
            due("the same, twice", x.sum(0, 0, 2, 1), 10);
            due("the same, 6 three times more", x.sum(0, 0, 3, 0), 24 % 7);
        });
        s.test("AGAIN: behind how many times (1 .. 2000) ADDED it would be as now first; none.", () -> {
            due("no wheels", new RestRegisters().again(0, 1), 1);
            RestRegisters x = with("p19,p15,p7");
            due("0 is added", x.again(0, 1), 1);
            x.lay(1, 1);
            // Of all that sizes to 19 make, 1995 is the last up to 2000, 2002 the next.
            due("1995", x.again(0, 1), 1995);
            RestRegisters y = with("p14,p13,p11");
            y.lay(1, 1);
            due("2002", y.again(0, 1), NONE);
            y.lay(1, 2);
            due("first, not later", y.again(0, 1), 1001);
            RestRegisters z = with("z5");
            z.lay(1, 4);
            due("it never moves", z.again(0, 1), 1);
            RestRegisters l = with("l5");
            l.lay(0, 4);
            l.lay(1, 3);
            // 4, 1, 4.
            due("by losing", l.again(0, 1), 2);
            l.lay(0, 2);
            // 2, 0, 3, 0, 3, and so on.
            due("never again", l.again(0, 1), NONE);
        });
        s.test("SHOULD of two: WHEELS (a set) that would show otherwise than PLAIN ones, the one ADDED to the other (as RESTS are).", () -> {
            RestRegisters x = with("p9,l7,s5,w4;z11,p13");
            x.lay(1, 1);
            due("1 to 0", x.should(0, 1), 4 + 16);
            due("0 to 1", x.should(1, 0), 0);
            due("1 to 1", x.should(1, 1), 4 + 8 + 16);
            x.lay(2, 180179);
            due("the greatest rests to themselves", x.should(2, 2), 2 + 8 + 16);
            due("1 to the greatest: LOSING is 0 at least", x.should(2, 1), 4 + 16);
        });
        s.test("WRONG of a WHEEL: of all RESTS a, b, how many sums are otherwise than those of a PLAIN one.", () -> {
            for (int width = 2; width <= 19; width++) {
                due("PLAIN", with("p" + width).of(0, 3), 0);
                // Both together more than WIDTH: of b as many as b less 1.
                due("LOSING", with("l" + width).of(0, 3), (width - 1) * (width - 2) / 2);
                due("STICKING", with("s" + width).of(0, 3), width);
                int lazy = width == 2 ? 1 : 1 + (width - 1) / 2;
                due("LAZY", with("z" + width).of(0, 3), lazy * width);
            }
            due("WORN of 2", with("w2").of(0, 3), 0);
            due("WORN of 3: 1 and 1, 2 and 2", with("w3").of(0, 3), 2);
            // LOSING: 3; 1 and 1 too; 2 and 2 is 0 anyway.
            due("WORN of 4", with("w4").of(0, 3), 4);
        });
    }

    private static void odds(RestRegisters x, int register, int c, int above, int below) {
        due("register " + register + " by " + c + ": above", x.unseen(register, c, 0), above);
        due("register " + register + " by " + c + ": below", x.unseen(register, c, 1), below);
    }

    private static void unseen(Sentences s) {
        s.test("UNSEEN by c of 10 (0 .. 10): each REST of a REGISTER is 1 more (WIDTH: 0) by c of 10, apart: how likely some "
                + "are, and it is LEGAL all the same: a fraction in lowest terms.", () -> {
            odds(new RestRegisters(), 0, 10, 0, 1);
            RestRegisters honest = with("p2,p3,p5,p7");
            odds(honest, 0, 0, 0, 1);
            odds(honest, 0, 1, 3439, 10000);
            odds(honest, 0, 5, 15, 16);
            odds(honest, 0, 9, 9999, 10000);
            odds(honest, 0, 10, 1, 1);
            due("c -1", honest.unseen(0, -1, 0), BAD);
            due("c 11", honest.unseen(0, 11, 0), BAD);
            RestRegisters x = with("p2;p3");
            x.lay(1, 5);
            // 1 and 2: both turn to 0 (LEGAL), the 2 alone to 2, the 3 alone to 3.
            odds(x, 1, 10, 1, 1);
            odds(x, 1, 3, 9, 100);
            x.lay(2, 1);
            // 2 by both: not LEGAL; 4, 5 by one alone.
            odds(x, 2, 10, 0, 1);
            odds(x, 2, 3, 0, 1);
            x.lay(3, 3);
            // 3 is 1 and 0: the 2 alone turns to 0 (LEGAL), the 3 alone to 1 (LEGAL), both to 4.
            odds(x, 3, 5, 1, 2);
            odds(x, 3, 1, 9, 50);
        });
    }

    private static void rows(Sentences s) {
        s.test("==== 3 A row tells a REST of each WHEEL, or -1 where it is rubbed out: RUBBED: how many numbers below RANGE have "
                + "these; the least; none.", () -> {
            RestRegisters x = with("p4;p3");
            // Of 0 .. 3: by the 4, by the 3.
            long[][] rows = {{-1, -1}, {0, -1}, {3, -1}, {-1, 0}, {-1, 1}, {-1, 2}, {0, 0}, {3, 0}, {3, 1}, {0, 1}};
            int[] many = {4, 1, 1, 2, 1, 1, 1, 1, 0, 0};
            int[] least = {0, 0, 3, 0, 1, 2, 0, 3, NONE, NONE};
            for (int k = 0; k < rows.length; k++) {
                Due.fill(x, 0, 0, rows[k]);
                due("how many, row " + k, x.rubbed(0, 0, 0, 0), many[k]);
                due("the least, row " + k, x.rubbed(0, 0, 0, 1), least[k]);
            }
        });
        s.test("SEEN: a row tells sums by threes: a, b, what a WHEEL showed: KINDS (a set) by which all are so.", () -> {
            RestRegisters x = with("p5");
            Due.fill(x, 0, 0, 0, 0, 0, 4, 4, 3, 4, 1, 0, 3, 4, 2);
            due("0 and 0: all", x.seen(0, 0, 0, 0, 1), 31);
            due("4 and 4 is 3: PLAIN, STICKING", x.seen(0, 0, 0, 0, 2), 5);
            due("4 and 1 is 0: PLAIN", x.seen(0, 0, 0, 0, 3), 1);
            due("all four: PLAIN", x.seen(0, 0, 0, 0, 4), 1);
            Due.fill(x, 1, 0, 4, 4, 3, 4, 4, 2, 4, 4, 0, 4, 4, 4, 4, 4, 1);
            due("LOSING", x.seen(0, 1, 0, 3, 1), 2);
            due("WORN", x.seen(0, 1, 0, 6, 1), 8);
            due("LAZY", x.seen(0, 1, 0, 9, 1), 16);
            due("no kind", x.seen(0, 1, 0, 12, 1), 0);
            due("no kind is both", x.seen(0, 1, 0, 0, 2), 0);
        });
    }

    private static void undone(Sentences s) {
        s.test("UNDONE: the latest of what is LAID, ADDED, TIMES, TURNED, SLIPPED, TAKEN, a turn of a DRIFT, is as it had not been", () -> {
            String[] names = {"lay", "add", "times", "negate", "slip", "take", "drift"};
            long[][] numbers = {{0, 44}, {0, 1}, {0, 1}, {0}, {0, 1, 2}, {0, 1}, {1}};
            for (int k = 0; k < names.length; k++) {
                RestRegisters x = Midway.made();
                due("known", x.count(6), 6);
                Calls.call(x, names[k], numbers[k]);
                due("known behind " + names[k], x.count(6), 7);
                due("undo of " + names[k], x.undo(), 6);
                Due.holds(names[k] + " is as it had not been", Arrays.equals(Midway.found(x), Midway.found(Midway.made())));
            }
            RestRegisters x = with("p5");
            due("what stays as it was is done too", x.lay(0, 0), 0);
            due("what stays as it was is done too", x.negate(0), 0);
            due("what stays as it was is done too", x.take(0, 1), 0);
            due("known", x.count(6), 3);
        });
        s.test("(8 are known, older ones lost):", () -> {
            for (int done = 0; done <= 20; done++) {
                RestRegisters x = with("p19");
                for (int k = 1; k <= done; k++) {
                    x.lay(0, k % 19);
                }
                int known = Math.min(done, 8);
                due("known of " + done, x.count(6), known);
                for (int k = 1; k <= known; k++) {
                    due("undo", x.undo(), known - k);
                    due("value", x.at(0, 0), (done - k) % 19);
                }
                due("older ones are lost", x.undo(), NONE);
                due("older ones are lost", x.at(0, 0), (done - known) % 19);
            }
        });
        s.test("all RESTS, THE DRAW are as ahead of it, whatever was told since;", () -> {
            RestRegisters x = with("p19;p17");
            x.seed(5);
            x.lay(0, 322);
            x.seed(6);
            x.image();
            Due.tell(x, "p1");
            due("undo", x.undo(), 0);
            due("the draw is as ahead of it", x.seed(7), 5);
            Due.rests(x, 0, 0, 0);
            RestRegisters y = with("p19;p17");
            y.lay(1, 321);
            y.drift(8);
            y.seed(GREATEST);
            for (int k = 7; k >= 0; k--) {
                due("undo", y.undo(), k);
            }
            due("the draw is as ahead of all turns", y.seed(0), 1);
            due("value", y.at(1, 0), 321);
        });
        s.test("a SET told leaves nothing to be UNDONE.", () -> {
            RestRegisters x = with("p19");
            x.lay(0, 3);
            due("a fault leaves it", Due.tell(x, "p"), -21);
            due("known", x.count(6), 1);
            due("the same set", Due.tell(x, "p19"), 1);
            due("known", x.count(6), 0);
            due("undo", x.undo(), NONE);
            x.lay(0, 4);
            due("undo", x.undo(), 0);
            due("value", x.at(0, 0), 0);
        });
    }

    private static long next(long draw) {
        return (draw * 1103515245L + 12345L) & 0x7fffffffL;
    }

    private static void drift(Sentences s) {
        s.test("DRIFT by a seed: THE DRAW is a number of 31 bits (1 at first); for each turn of a DRIFT it becomes the lowest 31 "
                + "bits of itself times 1103515245 and 12345 more:", () -> {
            due("1 at first", new RestRegisters().seed(1), 1);
            for (int seed : new int[] {0, 1, 2, 3, 12345, 1 << 30, GREATEST - 1, GREATEST}) {
                RestRegisters x = with("p19");
                x.seed(seed);
                x.drift(1);
                due("one turn", x.seed(seed), next(seed));
                x.drift(2);
                due("two turns", x.seed(0), next(next(seed)));
            }
        });
        s.test("to the REGISTER that it is by 65536, left over by 4, the one that it is by 128, left over by 4, is ADDED;", () -> {
            boolean[] met = new boolean[16];
            for (int seed = 0; seed < 300; seed++) {
                long draw = next(seed);
                if (draw / 2048 % 5 != 0) {
                    met[turnOfRegisters(seed, (int) (draw / 65536 % 4), (int) (draw / 128 % 4))] = true;
                }
            }
            for (int k = 0; k < 16; k++) {
                Due.holds("a draw adds " + k % 4 + " to " + k / 4, met[k]);
            }
        });
        s.test("then, if it by 2048, left over by 5, is 0, and there are WHEELS, of the first one the WHEEL that it is by 256, "
                + "left over by how many there are, is 1 more (WIDTH: 0).", () -> {
            for (int seed = 0; seed < 300; seed++) {
                turnOfAWheel(seed);
            }
            RestRegisters none = new RestRegisters();
            due("no wheels", none.drift(40), 15);
            due("no wheels, each turn is one", none.count(6), 8);
        });
    }

    private static int turnOfRegisters(int seed, int first, int second) {
        int[] numbers = {30, 31, 33, 37};
        RestRegisters x = with("p19,p17");
        for (int register = 0; register < 4; register++) {
            x.lay(register, numbers[register]);
        }
        x.seed(seed);
        x.drift(1);
        numbers[first] += numbers[second];
        for (int register = 0; register < 4; register++) {
            due("seed " + seed + ", register " + register, x.at(register, 0), numbers[register]);
        }
        return 4 * first + second;
    }

    /** All wheels stand at 0, or at WIDTH less 1, of the register that a turn adds to; what is added to it is 0. */
    private static void turnOfAWheel(int seed) {
        long draw = next(seed);
        int first = (int) (draw / 65536 % 4);
        boolean turns = draw / 2048 % 5 == 0;
        if (draw / 128 % 4 == first) {
            return;
        }
        String[] sets = {"s19", "p5,l3", "p2,p3;p5", "p2,l3;s5,w7", "p2,l3,z11;s5,w7", WIDEST};
        for (int wheels = 1; wheels <= 6; wheels++) {
            RestRegisters x = with(sets[wheels - 1]);
            x.seed(seed);
            x.lay(first, x.count(3) - 1);
            x.drift(1);
            for (int wheel = 0; wheel < wheels; wheel++) {
                boolean turned = turns && draw / 256 % wheels == wheel;
                due("seed " + seed + ", wheel " + wheel + " of " + wheels, x.rest(first, wheel), turned ? 0 : x.of(wheel, 1) - 1);
            }
            x.lay(first, 0);
            x.seed(seed);
            x.drift(1);
            for (int wheel = 0; wheel < wheels; wheel++) {
                boolean turned = turns && draw / 256 % wheels == wheel;
                due("seed " + seed + ", wheel " + wheel + " of " + wheels, x.rest(first, wheel), turned ? 1 : 0);
            }
        }
    }

    private static void set(Sentences s) {
        s.test("A SET is a TEXT: 1 to 4 HONEST ones with , between, then perhaps ; and 1 to 2 CHECKS with , between:", () -> {
            String[] honest = {"", "p2", "p2,p3", "p2,p3,p5", "p2,p3,p5,p7", "p2,p3,p5,p7,p11"};
            String[] checks = {"", "p13", "p13,p17", "p13,p17,p19"};
            for (int h = 0; h <= 5; h++) {
                for (int c = 0; c <= 3; c++) {
                    String text = honest[h] + (c == 0 ? "" : ";" + checks[c]);
                    int fault = h == 0 ? -20 : h == 5 ? -20 - 11 : -20 - honest[h].length() - 8;
                    told(text, h == 0 || h == 5 || c == 3 ? fault : h + c);
                }
                if (h > 0 && h < 5) {
                    told(honest[h] + ";", -20 - honest[h].length() - 1);
                    told(honest[h] + ",", -20 - honest[h].length() - (h == 4 ? 0 : 1));
                    told(honest[h] + ";p13;p17", -20 - honest[h].length() - 4);
                    told(honest[h] + "p17", -20 - honest[h].length());
                }
            }
        });
        s.test("p l s w z (PLAIN, LOSING, STICKING, WORN, LAZY), a number 2 .. 19 (WIDTH; no common part but 1 with those ahead):", () -> {
            for (int letter = 33; letter <= 126; letter++) {
                RestRegisters x = new RestRegisters();
                int kind = KINDS.indexOf(letter);
                due("'" + (char) letter + "3'", Due.tell(x, (char) letter + "3"), kind < 0 ? -20 : 1);
                due("its KIND", x.of(0, 0), kind < 0 ? BAD : kind);
            }
            told("z2", 1);
            told("z1", -21);
            told("z19", 1);
            told("z20", -21);
            told("p4,p9,p6", -20 - 7);
            told("p4,p9;p15", -20 - 7);
            told("p4,p9;p5,p15", -20 - 10);
            told("p4,p9;p5,p7", 4);
        });
        s.test("in place of all; all RESTS 0 (THE DRAW stays).", () -> {
            RestRegisters x = with("p2,l3;s5,w7");
            for (int register = 0; register < 4; register++) {
                x.lay(register, 209);
            }
            x.seed(99);
            due("set", Due.tell(x, "z9,p4"), 2);
            due("wheels", x.count(0), 2);
            due("no wheel 2", x.of(2, 0), BAD);
            due("HONEST ones", x.count(1), 2);
            due("RANGE", x.count(2), 36);
            due("SPAN", x.count(3), 36);
            due("the draw", x.seed(99), 99);
            due("a set of more wheels", Due.tell(x, "p2,l3;s5,w7"), 4);
            for (int register = 0; register < 4; register++) {
                Due.rests(x, register, 0, 0, 0, 0);
            }
        });
    }

    private static void faults(Sentences s) {
        s.test("Numbers have 1 or 2 digits (a third one can't stand there).", () -> {
            told("p2", 1);
            told("p02", 1);
            told("p19", 1);
            told("p019", -21);
            told("p190", -23);
            told("p023", -23);
            told("p", -21);
            told("p,", -21);
            told("p7,p115", -26);
        });
        s.test("FAULTS: -20 less the place of the first letter (behind blanks) that can't stand there,", () -> {
            told("x", -20);
            told("  x", -22);
            told("p  x", -23);
            told("p 7  x", -25);
            told("p7 ,  x", -26);
            told("p7 ,  x y", -26);
            told("p7;  ;", -25);
            told(" ".repeat(39) + "x", -59);
            told("p7" + " ".repeat(37) + "x", -59);
        });
        s.test("or of the number's first digit, if it (by two digits at most) is not as told (of both the first digit's;", () -> {
            told("p1", -21);
            told("p 1", -22);
            told("p 01x", -22);
            told("p20", -21);
            told("p200", -21);
            told("p001", -21);
            told("p99999", -21);
            told("p7,p 14", -25);
            told("p7,p 140", -25);
            told("p" + " ".repeat(38) + "1", -59);
        });
        s.test("the end: how many there are);", () -> {
            told("", -20);
            told(" ", -21);
            told("p", -21);
            told("p  ", -23);
            told("p7,", -23);
            told("p7, ", -24);
            told("p7;", -23);
            told("p7;s", -24);
            told(" ".repeat(40), -60);
            told("p7;" + " ".repeat(37), -60);
        });
        s.test("blanks count for nothing, but end a number.", () -> {
            told(" p 7 , l 9 ; s 10 , w 11 ", 4);
            told("p1 9", -21);
            told("p2 9", -23);
            told("p 2 3", -24);
            told("p19 0", -24);
            told("p7 " + " ".repeat(37), 1);
            told(" ".repeat(38) + "p7", 1);
        });
    }

    private static void theInterface(Sentences s) {
        s.nothingToTest("Ahead of the calls `type`, `set`, `of`, `rest`, `at`, `shows`, `count` the interface says: ---- 1 wheels, registers.");
        s.nothingToTest("Ahead of the calls `lay`, `add`, `times`, `negate`, `slip`, `take`, `drift`, `undo`, `seed` the interface says: "
                + "---- what is done.");
        s.nothingToTest("Ahead of the calls `figure`, `order`, `blame`, `nearest`, `apart`, `sum`, `again`, `should`, `unseen`, `image`, "
                + "`restore` the interface says: ---- 2 foretold.");
        s.test("Ahead of the calls `rubbed`, `seen`, `film`, `sheet`, `drop`, `item`, `copy` the interface says: ---- 3 sheets 0 .. 3: "
                + "nothing (at first), or a row of a LANE: 0 bytes, 1 shorts, 2 ints, 3 longs, of 0 to 24 items.", () -> {
            RestRegisters x = with("p19");
            for (int sheet = 0; sheet <= 3; sheet++) {
                due("nothing at first", x.drop(sheet), NULL);
                due("0 items", x.sheet(sheet, sheet, 0), 0);
                due("24 items", x.sheet(sheet, sheet, 24), 24);
                due("25 items", x.sheet(sheet, sheet, 25), BAD);
            }
            due("sheet 4", x.sheet(4, 0, 1), BAD);
            due("sheet -1", x.sheet(-1, 0, 1), BAD);
            due("lane 4", x.sheet(0, 4, 1), BAD);
            due("lane -1", x.sheet(0, -1, 1), BAD);
            int[] bits = {8, 16, 32};
            for (int lane = 0; lane <= 3; lane++) {
                for (int k = 0; k < 3; k++) {
                    x.item(lane, lane, 23, (1L << bits[k]) + 18);
                    due("lane " + lane + " has " + bits[k] + " bits or more", x.rubbed(lane, lane, 23, 1), lane <= k ? 18 : NONE);
                }
            }
        });
    }
}
