/** Each promise of the document by answers worked out by hand: ordinary inputs, edges, wrong inputs. */
public final class PromisesTest {
    private static final int BAD = -1, NOT = -2, FULL = -3, NONE = -4, NULL = -11, CAST = -12, INDEX = -13, SIZE = -14;
    private static final int LEAST = Integer.MIN_VALUE, GREATEST = Integer.MAX_VALUE;
    /** No number of a register, a sheet, a lane. */
    private static final int[] OUTSIDE = {-1, 4, LEAST, GREATEST};

    private static void due(String call, long got, long want) {
        Due.due(call, got, want);
    }

    private static RestRegisters with(String text) {
        return Due.with(text);
    }

    /** RANGE 6, SPAN 210; one wheel of each of the first four kinds. */
    private static RestRegisters small() {
        return with("p2,l3;s5,w7");
    }

    private static void rests(String when, RestRegisters x, int register, int... want) {
        for (int wheel = 0; wheel < want.length; wheel++) {
            due(when + ": rest(" + register + ", " + wheel + ")", x.rest(register, wheel), want[wheel]);
        }
    }

    public static void main(String[] args) {
        promise1NewObject();
        promise2Type();
        promise3Set();
        promise3Faults();
        promise3WhatStays();
        promise4Of();
        promise5Rest();
        promise6At();
        promise7Shows();
        promise8Count();
        promise9Lay();
        promise10Add();
        promise11Times();
        promise12Negate();
        promise13Slip();
        promise14Take();
        promise15Drift();
        promise16Undo();
        promise17Seed();
        promise18Figure();
        promise19Order();
        promise20Blame();
        promise21Nearest();
        promise22Apart();
        promise23Sum();
        promise24Again();
        promise25Should();
        promise26Unseen();
        promise27And28Image();
        promise29Rubbed();
        promise30Seen();
        promise31Film();
        promise32Sheet();
        promise33Drop();
        promise34Item();
        promise35Copy();
        allSixWheels();
        Due.end("PromisesTest");
    }

    private static void promise1NewObject() {
        RestRegisters x = new RestRegisters();
        due("new: count(0)", x.count(0), 0);
        due("new: count(1)", x.count(1), 0);
        due("new: count(2)", x.count(2), 1);
        due("new: count(3)", x.count(3), 1);
        due("new: count(4)", x.count(4), 15);
        due("new: count(5)", x.count(5), 0);
        due("new: count(6)", x.count(6), 0);
        due("new: rest", x.rest(0, 0), BAD);
        due("new: of", x.of(0, 0), BAD);
        due("new: shows", x.shows(0, 0, 0, 0), BAD);
        due("new: slip", x.slip(0, 0, 0), BAD);
        due("new: figure", x.figure(0, 0), BAD);
        due("new: sum", x.sum(0, 0, 0, 0), BAD);
        due("new: seen", x.seen(0, 0, 0, 0, 1), BAD);
        due("new: restore", x.restore(), NONE);
        due("new: undo", x.undo(), NONE);
        due("new: apart", x.apart(), NONE);
        due("new: the draw", x.seed(5), 1);
        due("new: the tape is empty", x.type('p'), 1);
        for (int sheet = 0; sheet < 4; sheet++) {
            due("new: drop", x.drop(sheet), NULL);
        }
    }

    private static void promise2Type() {
        RestRegisters x = new RestRegisters();
        for (int letter : new int[] {31, 127, -1, 0, 32 + 256, LEAST, GREATEST}) {
            due("type(" + letter + ")", x.type(letter), BAD);
        }
        due("type(32)", x.type(32), 1);
        due("type(126)", x.type(126), 2);
        for (int many = 3; many <= 40; many++) {
            due("type, letter " + many, x.type(' '), many);
        }
        due("type, full", x.type(' '), FULL);
        due("type, BAD ahead of FULL", x.type(31), BAD);
        due("set of a full tape", x.set(), -21);
        due("type behind set", x.type('p'), 1);
        RestRegisters y = new RestRegisters();
        due("a whole tape", Due.tell(y, "p2,l3,s5,w7;z11,p13" + " ".repeat(21)), 6);
        due("type behind it", y.type('p'), 1);
    }

    private static void promise3Set() {
        RestRegisters x = new RestRegisters();
        due("six", Due.tell(x, "p2,l3,s5,w7;z11,p13"), 6);
        due("blanks", Due.tell(x, "  p  7 , l 09 ;  z 2  "), 3);
        due("kind", x.of(1, 0), 1);
        due("width 09", x.of(1, 1), 9);
        due("kind of the check", x.of(2, 0), 4);
        due("check", x.of(2, 2), 1);
        due("widest", Due.tell(x, "p19"), 1);
        due("least", Due.tell(x, "z2"), 1);
        due("four honest, no check", Due.tell(x, "p19,p17,p16,p15"), 4);
        due("the widest six", Due.tell(x, "p19,p17,p16,p15;p13,p11"), 6);
        due("SPAN", x.count(3), 11085360);
        due("RANGE", x.count(2), 77520);
        due("one and one", Due.tell(x, "p9;p8"), 2);
    }

    private static void promise3Faults() {
        String[] texts = {
            "", " ", "   ", "x", "P7", " x", "7", ",", ";", "p", "p ", "pp7", "p,", "p;p7", "p-3",
            "p0", "p1", "p 1", "p1 9", "p20", "p99", "p00", "p01", "p200", "p190", "p2 0", "p1 90", "p 19 0", "p002",
            "p7,", "p7, ", "p7;", "p7; ", "p7,,p3", "p7,;p3", "p7;,p3", "p7p3", "p7 p3", "p7.p3",
            "p7,p7", "p7,p14", "p7;p14", "p6,p5;p15", "p6,p5; p 15", "p7;p6,p3", "p7,p1", "p7,p210",
            "p2,p3,p5,p7,p11", "p2,p3,p5,p7 ,p11", "p7;p6,p5,p11", "p7;p6;p5", "p7;p6,p5;p11", "p7;p6,p5 x", "p7;p6x",
            "p7,x3", "p7,q", "p7,s", "p7;w", "p7;w x", "p2,p3,p5,p7;", "p2,p3,p5,p7;p4", "p2,p3,p5,p7;p11,p13,", "p7~",
        };
        int[] places = {
            0, 1, 3, 0, 0, 1, 0, 0, 0, 1, 2, 1, 1, 1, 1,
            1, 1, 2, 1, 1, 1, 1, 1, 1, 3, 3, 1, 5, 1,
            3, 4, 3, 4, 3, 3, 3, 2, 3, 2,
            4, 4, 4, 7, 9, 7, 4, 4,
            11, 12, 8, 5, 8, 9, 5,
            3, 3, 4, 4, 5, 12, 13, 19, 2,
        };
        due("as many places as texts", places.length, texts.length);
        for (int k = 0; k < Math.min(places.length, texts.length); k++) {
            RestRegisters x = small();
            due("set '" + texts[k] + "'", Due.tell(x, texts[k]), -20 - places[k]);
            due("wheels behind '" + texts[k] + "'", x.count(0), 4);
            due("the tape behind '" + texts[k] + "'", x.type('p'), 1);
        }
    }

    private static void promise3WhatStays() {
        RestRegisters x = small();
        due("lay", x.lay(2, 209), 0);
        due("lay", x.lay(0, 209), 0);
        due("seed", x.seed(77), 1);
        due("sheet", x.sheet(1, 2, 3), 3);
        due("a fault", Due.tell(x, "p1"), -21);
        due("value behind a fault", x.at(2, 0), 209);
        due("undo known behind a fault", x.count(6), 2);
        due("draw behind a fault", x.seed(78), 77);
        due("image", x.image(), 1);
        due("a set", Due.tell(x, "p2,p3;p5,p7"), 4);
        due("value behind a set", x.at(2, 0), 0);
        rests("behind a set", x, 2, 0, 0, 0, 0);
        rests("behind a set", x, 0, 0, 0, 0, 0);
        due("undo behind a set", x.undo(), NONE);
        due("draw behind a set", x.seed(79), 78);
        due("sheet behind a set", x.drop(1), 3);
        due("image behind a set", x.restore(), 1);
        due("value of the image", x.at(2, 0), 209);
        due("a narrower set", Due.tell(x, "p2"), 1);
        due("a wider set", Due.tell(x, "p2,p3,p5"), 3);
        for (int register = 0; register < 4; register++) {
            rests("a wider set", x, register, 0, 0, 0);
        }
    }

    private static void promise4Of() {
        RestRegisters x = with("p7,l9,s10;w11,z13");
        int[][] want = {{0, 7, 0, 0}, {1, 9, 0, 28}, {2, 10, 0, 10}, {3, 11, 1, 50}, {4, 13, 1, 91}};
        for (int wheel = 0; wheel < 5; wheel++) {
            for (int what = 0; what < 4; what++) {
                due("of(" + wheel + ", " + what + ")", x.of(wheel, what), want[wheel][what]);
            }
            due("of, what 4", x.of(wheel, 4), BAD);
            due("of, what -1", x.of(wheel, -1), BAD);
        }
        due("of wheel 5", x.of(5, 0), BAD);
        due("of wheel -1", x.of(-1, 0), BAD);
        // Of width 2 a LOSING one shows 0 for 1 and 1, as a PLAIN one does.
        due("WRONG of l2", with("l2").of(0, 3), 0);
        // b is 1: a 0 and a 1 both stick.
        due("WRONG of s2", with("s2").of(0, 3), 2);
        due("WRONG of w2", with("w2").of(0, 3), 0);
        due("WRONG of z2", with("z2").of(0, 3), 2);
        // b is 1, or 3 .. 4: three columns of five.
        due("WRONG of z5", with("z5").of(0, 3), 15);
        // b is 1, or 3: of width 4 a half is 2.
        due("WRONG of z4", with("z4").of(0, 3), 8);
        // Both together 4 .. 4 of width 3: 2 and 2; and 1 and 1, which is 2.
        due("WRONG of w3", with("w3").of(0, 3), 2);
    }

    private static void promise5Rest() {
        RestRegisters x = small();
        x.lay(1, 209);
        x.lay(3, 43);
        rests("209", x, 1, 1, 2, 4, 6);
        rests("43", x, 3, 1, 1, 3, 1);
        rests("nothing laid", x, 0, 0, 0, 0, 0);
        for (int register : OUTSIDE) {
            due("rest of register " + register, x.rest(register, 0), BAD);
            due("rest of wheel " + register, x.rest(0, register), BAD);
        }
    }

    private static void promise6At() {
        RestRegisters x = small();
        int[] numbers = {0, 1, 5, 6, 7, 100, 208, 209};
        for (int number : numbers) {
            x.lay(2, number);
            due("VALUE", x.at(2, 0), number);
            due("LEGAL of " + number, x.at(2, 1), number < 6 ? 1 : 0);
        }
        due("at, what 2", x.at(0, 2), BAD);
        due("at, what -1", x.at(0, -1), BAD);
        for (int register : OUTSIDE) {
            due("at of register " + register, x.at(register, 0), BAD);
        }
        RestRegisters wide = with("p19,p17,p16,p15;p13,p11");
        wide.lay(0, 11085359);
        rests("the greatest", wide, 0, 18, 16, 15, 14, 12, 10);
        due("the greatest", wide.at(0, 0), 11085359);
        wide.lay(0, 77519);
        due("the greatest LEGAL", wide.at(0, 1), 1);
        wide.lay(0, 77520);
        due("one more", wide.at(0, 1), 0);
    }

    /** What the sums of kinds 0 .. 4 of width 6 show, for b of 0 .. 5, by a. */
    private static final int[][][] SUMS_OF_SIX = {
        {{0, 1, 2, 3, 4, 5}, {1, 2, 3, 4, 5, 0}, {2, 3, 4, 5, 0, 1}, {3, 4, 5, 0, 1, 2}, {4, 5, 0, 1, 2, 3}, {5, 0, 1, 2, 3, 4}},
        {{0, 1, 2, 3, 4, 5}, {1, 2, 3, 4, 5, 0}, {2, 3, 4, 5, 0, 0}, {3, 4, 5, 0, 0, 1}, {4, 5, 0, 0, 1, 2}, {5, 0, 0, 1, 2, 3}},
        {{0, 0, 2, 3, 4, 5}, {1, 1, 3, 4, 5, 0}, {2, 2, 4, 5, 0, 1}, {3, 3, 5, 0, 1, 2}, {4, 4, 0, 1, 2, 3}, {5, 5, 1, 2, 3, 4}},
        {{0, 1, 2, 3, 4, 5}, {1, 0, 3, 4, 5, 0}, {2, 3, 0, 5, 0, 0}, {3, 4, 5, 0, 0, 1}, {4, 5, 0, 0, 0, 2}, {5, 0, 0, 1, 2, 0}},
        {{0, 0, 2, 3, 0, 0}, {1, 1, 3, 4, 1, 1}, {2, 2, 4, 5, 2, 2}, {3, 3, 5, 0, 3, 3}, {4, 4, 0, 1, 4, 4}, {5, 5, 1, 2, 5, 5}},
    };

    private static void promise7Shows() {
        String kinds = "plswz";
        for (int kind = 0; kind < 5; kind++) {
            RestRegisters x = with(kinds.charAt(kind) + "6");
            for (int a = 0; a < 6; a++) {
                for (int b = 0; b < 6; b++) {
                    int want = SUMS_OF_SIX[kind][a][b];
                    due("kind " + kind + " shows of " + a + ", " + b, x.shows(0, a, b, 0), want);
                }
            }
            due("a too great", x.shows(0, 6, 0, 0), BAD);
            due("a too little", x.shows(0, -1, 0, 0), BAD);
            due("b too great", x.shows(0, 0, 6, 1), BAD);
            due("b too little", x.shows(0, 0, LEAST, 1), BAD);
            due("what 2", x.shows(0, 0, 0, 2), BAD);
            due("what -1", x.shows(0, 0, 0, -1), BAD);
            due("no such wheel", x.shows(1, 0, 0, 0), BAD);
            due("no such wheel", x.shows(-1, 0, 0, 0), BAD);
        }
        due("PLAIN TIMES", with("p7").shows(0, 5, 4, 1), 6);
        due("TIMES 0", with("p7").shows(0, 5, 0, 1), 0);
        due("0 TIMES", with("p7").shows(0, 0, 6, 1), 0);
        // 0, 4, 8 of 7: 1 less 1 is 0, 4, ..
        due("LOSING TIMES", with("l7").shows(0, 4, 3, 1), 4);
        due("STICKING 1 TIMES", with("s7").shows(0, 1, 6, 1), 0);
        due("STICKING TIMES 1", with("s7").shows(0, 6, 1, 1), 6);
        // 0, 3, then 3 and 3 are alike: 0, then 3.
        due("WORN TIMES", with("w7").shows(0, 3, 3, 1), 3);
        due("WORN TIMES", with("w7").shows(0, 3, 2, 1), 0);
        due("LAZY 4 TIMES", with("z7").shows(0, 4, 5, 1), 0);
        due("LAZY 3 TIMES", with("z7").shows(0, 3, 5, 1), 1);
    }

    private static void promise8Count() {
        RestRegisters x = with("p2,l3;s5,p7");
        x.lay(0, 5);
        x.lay(1, 6);
        x.lay(3, 209);
        int[] want = {4, 2, 6, 210, 5, 9, 3};
        for (int what = 0; what < want.length; what++) {
            due("count(" + what + ")", x.count(what), want[what]);
        }
        due("count(7)", x.count(7), BAD);
        due("count(-1)", x.count(-1), BAD);
        RestRegisters honest = with("w4,z9");
        due("SPAN without checks", honest.count(3), 36);
        due("RANGE without checks", honest.count(2), 36);
        due("none is PLAIN", honest.count(5), 0);
        honest.lay(0, 35);
        due("all are LEGAL", honest.count(4), 15);
        x.lay(0, 6);
        x.lay(1, 5);
        due("register 0 is not LEGAL", x.count(4), 6);
    }

    private static void promise9Lay() {
        RestRegisters x = small();
        due("lay", x.lay(1, 209), 0);
        due("lay again", x.lay(1, 100), 209);
        due("lay the same", x.lay(1, 100), 100);
        due("known", x.count(6), 3);
        due("too great", x.lay(1, 210), BAD);
        due("too little", x.lay(1, -1), BAD);
        due("far too great", x.lay(1, GREATEST), BAD);
        for (int register : OUTSIDE) {
            due("lay of register " + register, x.lay(register, 0), BAD);
        }
        due("what is refused", x.at(1, 0), 100);
        due("what is refused is not known", x.count(6), 3);
        rests("100", x, 1, 0, 1, 0, 2);
    }

    private static void promise10Add() {
        RestRegisters plain = with("p2,p3;p5,p7");
        plain.lay(0, 123);
        plain.lay(1, 99);
        due("123 and 99", plain.add(0, 1), 12);
        due("the other one stays", plain.at(1, 0), 99);
        due("with itself", plain.add(1, 1), 198);
        RestRegisters x = small();
        x.lay(0, 209);
        x.lay(1, 43);
        // 1 and 1; 2 and 1, 0 at least; 4 and 3; 6 and 1, 0 at least.
        due("add", x.add(0, 1), 42);
        rests("add", x, 0, 0, 0, 2, 0);
        x.lay(2, 1);
        // 1 and 1 of: 2, of 3, sticking, worn.
        due("1 and 1", x.add(2, 2), 56);
        rests("1 and 1", x, 2, 0, 2, 1, 0);
        due("known", x.count(6), 5);
        for (int register : OUTSIDE) {
            due("add to register " + register, x.add(register, 0), BAD);
            due("add of register " + register, x.add(0, register), BAD);
        }
        due("known", x.count(6), 5);
    }

    private static void promise11Times() {
        RestRegisters plain = with("p2,p3;p5,p7");
        plain.lay(0, 17);
        plain.lay(1, 11);
        due("17 TIMES 11", plain.times(0, 1), 187);
        due("the other one stays", plain.at(1, 0), 11);
        due("by itself", plain.times(1, 1), 121);
        plain.lay(2, 10);
        due("121 TIMES 10", plain.times(1, 2), 160);
        RestRegisters x = small();
        x.lay(0, 209);
        x.lay(1, 207);
        rests("207", x, 1, 1, 0, 2, 4);
        // 1; none; 4 and 4 left over by 5; 6, alike: 0, 6, 0.
        due("times", x.times(0, 1), 63);
        rests("times", x, 0, 1, 0, 3, 0);
        due("known", x.count(6), 3);
        for (int register : OUTSIDE) {
            due("times of register " + register, x.times(register, 0), BAD);
            due("times by register " + register, x.times(0, register), BAD);
        }
        due("known", x.count(6), 3);
    }

    private static void promise12Negate() {
        RestRegisters x = small();
        due("of 0", x.negate(0), 0);
        x.lay(0, 1);
        due("of 1", x.negate(0), 209);
        rests("of 1", x, 0, 1, 2, 4, 6);
        x.lay(1, 14);
        due("of 14", x.negate(1), 196);
        rests("0 stays 0", x, 1, 0, 1, 1, 0);
        due("back", x.negate(1), 14);
        RestRegisters three = with("w3,p2");
        three.lay(0, 1);
        due("the first wheel too", three.negate(0), 5);
        due("known", x.count(6), 6);
        for (int register : OUTSIDE) {
            due("negate of register " + register, x.negate(register), BAD);
        }
        due("known", x.count(6), 6);
    }

    private static void promise13Slip() {
        RestRegisters x = small();
        x.lay(0, 209);
        due("slip", x.slip(0, 2, 0), 4);
        rests("slip", x, 0, 1, 2, 0, 6);
        due("it is so", x.slip(0, 2, 0), NOT);
        due("the greatest rest", x.slip(0, 3, 5), 6);
        due("too great", x.slip(0, 3, 7), BAD);
        due("too little", x.slip(0, 3, -1), BAD);
        due("no such wheel", x.slip(0, 4, 0), BAD);
        due("no such wheel", x.slip(0, -1, 0), BAD);
        for (int register : OUTSIDE) {
            due("slip of register " + register, x.slip(register, 0, 0), BAD);
        }
        due("known", x.count(6), 3);
        rests("refused", x, 0, 1, 2, 0, 5);
    }

    private static void promise14Take() {
        RestRegisters x = small();
        x.lay(0, 209);
        x.lay(1, 43);
        due("take", x.take(0, 1), 43);
        rests("take", x, 0, 1, 1, 3, 1);
        due("the other one stays", x.at(1, 0), 43);
        x.lay(3, 42);
        due("the first wheel too", x.take(3, 1), 43);
        due("alike", x.take(2, 2), BAD);
        due("what is as it was counts too", x.take(0, 1), 43);
        due("known", x.count(6), 6);
        for (int register : OUTSIDE) {
            due("take to register " + register, x.take(register, 0), BAD);
            due("take from register " + register, x.take(0, register), BAD);
        }
        due("known", x.count(6), 6);
    }

    private static void promise15Drift() {
        RestRegisters x = with("p5;p7");
        for (int register = 0; register < 4; register++) {
            x.lay(register, register + 1);
        }
        // The draw is 1103527590: by 65536 it is 16838, register 2; by 128 8621309, register 1;
        // by 2048 538831, which leaves 1 by 5: no wheel turns.
        due("drift(1), 3 and 2 are not LEGAL", x.drift(1), 11);
        due("register 2", x.at(2, 0), 5);
        due("the draw", x.seed(0), 1103527590);
        // The draw is 12345: register 0; by 128 96, register 0; by 2048 6, leaves 1.
        due("drift(1)", x.drift(1), 11);
        due("register 0", x.at(0, 0), 2);
        due("the draw", x.seed(0), 12345);
        due("BAD", x.drift(0), BAD);
        due("BAD", x.drift(41), BAD);
        due("BAD", x.drift(-1), BAD);
        due("known", x.count(6), 6);
        RestRegisters none = new RestRegisters();
        due("no wheels", none.drift(40), 15);
        due("each turn is known", none.count(6), 8);
        turnOfAWheel();
        manyTurns();
    }

    /** A draw by which a wheel turns, found from the rule itself. */
    private static void turnOfAWheel() {
        for (int seed = 0; seed < 2000; seed++) {
            long draw = (seed * 1103515245L + 12345) % (1L << 31);
            if (draw / 2048 % 5 != 0) {
                continue;
            }
            RestRegisters one = with("p19");
            one.seed(seed);
            one.drift(1);
            int first = (int) (draw / 65536 % 4);
            int second = (int) (draw / 128 % 4);
            due("seed " + seed + ": of one wheel", one.at(first, 0), 1);
            RestRegisters x = with("p5,p3;p7");
            int wheel = (int) (draw / 256 % 3);
            int[] widths = {5, 3, 7};
            x.lay(first, 104);
            x.lay(second, second == first ? 104 : 0);
            x.seed(seed);
            x.drift(1);
            for (int k = 0; k < 3; k++) {
                int plain = (second == first ? 2 : 1) * (widths[k] - 1) % widths[k];
                int want = k == wheel ? (plain + 1) % widths[k] : plain;
                due("seed " + seed + ": rest of wheel " + k, x.rest(first, k), want);
            }
        }
    }

    private static void manyTurns() {
        RestRegisters one = with("l5,w3;z7");
        RestRegisters many = with("l5,w3;z7");
        for (int register = 0; register < 4; register++) {
            one.lay(register, 20 + register);
            many.lay(register, 20 + register);
        }
        int legal = 0;
        for (int turn = 0; turn < 40; turn++) {
            legal = one.drift(1);
        }
        due("40 turns at once", many.drift(40), legal);
        for (int register = 0; register < 4; register++) {
            due("register " + register, many.at(register, 0), one.at(register, 0));
        }
        due("the draw", many.seed(0), one.seed(0));
    }

    private static void promise16Undo() {
        RestRegisters x = small();
        due("nothing known", x.undo(), NONE);
        x.lay(0, 100);
        x.lay(1, 43);
        x.add(0, 1);
        x.times(0, 1);
        x.negate(0);
        x.slip(2, 3, 5);
        x.take(3, 1);
        due("seven", x.count(6), 7);
        due("undo take", x.undo(), 6);
        due("register 3", x.at(3, 0), 0);
        due("undo slip", x.undo(), 5);
        rests("undo slip", x, 2, 0, 0, 0, 0);
        due("undo negate", x.undo(), 4);
        due("undo times", x.undo(), 3);
        due("undo add", x.undo(), 2);
        due("register 0", x.at(0, 0), 100);
        due("register 1", x.at(1, 0), 43);
        due("undo lay", x.undo(), 1);
        due("register 1", x.at(1, 0), 0);
        due("undo lay", x.undo(), 0);
        due("register 0", x.at(0, 0), 0);
        due("nothing known", x.undo(), NONE);
        olderOnesAreLost();
        undoneDrift();
    }

    private static void olderOnesAreLost() {
        RestRegisters x = small();
        for (int k = 1; k <= 11; k++) {
            x.lay(0, k);
        }
        due("known", x.count(6), 8);
        for (int k = 7; k >= 0; k--) {
            due("undo", x.undo(), k);
            due("value", x.at(0, 0), k + 3);
        }
        due("lost", x.undo(), NONE);
        due("value", x.at(0, 0), 3);
        x.lay(0, 200);
        due("known", x.count(6), 1);
        due("undo", x.undo(), 0);
        due("value", x.at(0, 0), 3);
    }

    private static void undoneDrift() {
        RestRegisters x = small();
        x.lay(0, 100);
        x.lay(1, 43);
        x.lay(2, 8);
        int[] before = {100, 43, 8, 0};
        x.drift(3);
        due("known", x.count(6), 6);
        due("told since", x.seed(99), drawBehind(3));
        due("undo a turn", x.undo(), 5);
        due("the draw as ahead of it", x.seed(98), drawBehind(2));
        due("undo a turn", x.undo(), 4);
        due("undo a turn", x.undo(), 3);
        due("the draw as ahead of it", x.seed(97), 1);
        for (int register = 0; register < 4; register++) {
            due("register " + register, x.at(register, 0), before[register]);
        }
        due("a seed is not known", x.count(6), 3);
        due("undo lay", x.undo(), 2);
        due("the draw as ahead of it", x.seed(0), 1);
    }

    private static long drawBehind(int turns) {
        long draw = 1;
        for (int turn = 0; turn < turns; turn++) {
            draw = (draw * 1103515245L + 12345L) % (1L << 31);
        }
        return draw;
    }

    private static void promise17Seed() {
        RestRegisters x = new RestRegisters();
        due("seed", x.seed(GREATEST), 1);
        due("seed", x.seed(0), GREATEST);
        due("seed", x.seed(-1), BAD);
        due("seed", x.seed(LEAST), BAD);
        due("seed", x.seed(7), 0);
        x.seed(GREATEST);
        x.drift(1);
        due("the draw", x.seed(0), (2147483647L * 1103515245L + 12345L) % (1L << 31));
        due("known", x.count(6), 1);
    }

    private static void promise18Figure() {
        RestRegisters x = with("p7,p9,p10;p11,p13");
        x.lay(1, 80580);
        int[] want = {3, 0, 9, 6, 11};
        for (int k = 0; k < 5; k++) {
            due("figure " + k, x.figure(1, k), want[k]);
        }
        due("figure 5", x.figure(1, 5), BAD);
        due("figure -1", x.figure(1, -1), BAD);
        for (int register : OUTSIDE) {
            due("figure of register " + register, x.figure(register, 0), BAD);
        }
    }

    private static void promise19Order() {
        RestRegisters x = small();
        x.lay(0, 100);
        x.lay(1, 101);
        x.lay(2, 100);
        due("less", x.order(0, 1), 0);
        due("as great", x.order(0, 2), 1);
        due("greater", x.order(1, 0), 2);
        due("itself", x.order(1, 1), 1);
        for (int register : OUTSIDE) {
            due("order", x.order(register, 0), BAD);
            due("order", x.order(0, register), BAD);
        }
    }

    private static void promise20Blame() {
        RestRegisters x = with("p7,p9,p10;p11,p13");
        x.lay(0, 500);
        due("LEGAL", x.blame(0), 0);
        x.slip(0, 1, 3);
        due("wheel 1 alone", x.blame(0), 2);
        x.slip(0, 1, 5);
        x.slip(0, 4, 7);
        due("wheel 4 alone", x.blame(0), 16);
        x.lay(0, 90089);
        due("none alone", x.blame(0), 0);
        x.lay(0, 630);
        due("RANGE itself", x.blame(0), 0);
        // RANGE 4, SPAN 12: 7 is 3 by another rest of the 3; by 4 alone 7, 10, 1, 4: 1 is LEGAL.
        RestRegisters y = with("p4;p3");
        y.lay(0, 7);
        due("either", y.blame(0), 3);
        y.lay(0, 5);
        due("either", y.blame(0), 3);
        y.lay(0, 4);
        due("either, of RANGE itself", y.blame(0), 3);
        for (int register : OUTSIDE) {
            due("blame", x.blame(register), BAD);
        }
    }

    private static void promise21Nearest() {
        RestRegisters x = with("p7,p9,p10;p11,p13");
        x.lay(0, 629);
        due("LEGAL: itself", x.nearest(0, 0), 629);
        due("LEGAL: none", x.nearest(0, 1), 0);
        x.slip(0, 3, 0);
        due("one slipped: which", x.nearest(0, 0), 629);
        due("one slipped: how many", x.nearest(0, 1), 1);
        x.lay(1, 90089);
        due("far off: which", x.nearest(1, 0), 629);
        due("far off: how many", x.nearest(1, 1), 2);
        x.lay(1, 630);
        due("RANGE itself: which", x.nearest(1, 0), 0);
        due("RANGE itself: how many", x.nearest(1, 1), 2);
        due("no wheels: which", new RestRegisters().nearest(0, 0), 0);
        due("no wheels: how many", new RestRegisters().nearest(0, 1), 0);
        // 7 leaves 3 by 4, 1 by 3: both 3 (as the 4) and 1 (as the 3) have one other rest.
        RestRegisters y = with("p4;p3");
        y.lay(2, 7);
        due("of like ones the least", y.nearest(2, 0), 1);
        due("how many", y.nearest(2, 1), 1);
        due("what 2", x.nearest(0, 2), BAD);
        due("what -1", x.nearest(0, -1), BAD);
        for (int register : OUTSIDE) {
            due("nearest", x.nearest(register, 0), BAD);
        }
    }

    private static void promise22Apart() {
        due("no wheels", new RestRegisters().apart(), NONE);
        due("one wheel", with("p2").apart(), 1);
        due("no checks", with("p2,p3").apart(), 1);
        due("two checks", with("p7,p9,p10;p11,p13").apart(), 3);
        due("one check", with("p7,p9,p10;p11").apart(), 2);
        // RANGE 2: 0 and 1 are other ones everywhere.
        due("least RANGE", with("p2;p19,p17").apart(), 3);
        // RANGE 19: 6 apart, the 2 and the 3 have the same rests.
        due("little checks", with("p19;p2,p3").apart(), 1);
        // RANGE 6: 5 apart, the 5 has the same rest.
        due("a check as great", with("p6;p5").apart(), 1);
        due("a check greater", with("p6;p7").apart(), 2);
    }

    private static void promise23Sum() {
        RestRegisters x = with("p7,l9,s10;w11,z13");
        x.lay(0, 500);
        x.lay(1, 77);
        x.lay(2, 1);
        due("none", x.sum(0, 1, 0, 1), 5);
        due("PLAIN, 1000 times", x.sum(0, 2, 1000, 0), (3 + 1000) % 7);
        // 5 and 5 of 9: 1 less 1: 0, then 5.
        due("LOSING", x.sum(0, 1, 1, 1), 0);
        due("LOSING", x.sum(0, 1, 2, 1), 5);
        due("STICKING", x.sum(0, 2, 1000, 2), 0);
        // 5 and 5 are alike: 0; then 5, its rest as it was.
        due("WORN with itself", x.sum(0, 0, 1, 3), 0);
        due("WORN with itself", x.sum(0, 0, 2, 3), 5);
        due("LAZY with itself", x.sum(0, 0, 3, 4), 11);
        due("nothing is changed", x.at(0, 0), 500);
        due("nothing is known", x.count(6), 3);
        due("too often", x.sum(0, 0, 1001, 0), BAD);
        due("too seldom", x.sum(0, 0, -1, 0), BAD);
        due("no such wheel", x.sum(0, 0, 1, 5), BAD);
        due("no such wheel", x.sum(0, 0, 1, -1), BAD);
        for (int register : OUTSIDE) {
            due("sum", x.sum(register, 0, 1, 0), BAD);
            due("sum", x.sum(0, register, 1, 0), BAD);
        }
    }

    private static void promise24Again() {
        due("no wheels", new RestRegisters().again(0, 0), 1);
        RestRegisters x = with("p7,l9,s10;w11,z13");
        x.lay(0, 500);
        due("0 is added", x.again(0, 1), 1);
        due("with itself", x.again(0, 0), 182);
        RestRegisters y = with("p16,p5;p19,p13");
        y.lay(0, 1);
        // 16 and 5 and 19 are 1520 times; with 13 more than 2000.
        y.lay(1, 13);
        due("1520", y.again(0, 1), 1520);
        due("more than 2000", y.again(1, 0), NONE);
        RestRegisters z = with("p16,p5,p3;p17");
        z.lay(1, 3 * 17);
        due("80", z.again(0, 1), 80);
        // A LOSING one of 9 by 3: 1, 4, 7, 0, 3, 6, 0, and so on.
        RestRegisters l = with("l9");
        l.lay(0, 1);
        l.lay(1, 3);
        due("never", l.again(0, 1), NONE);
        l.lay(0, 3);
        due("0, 3, 6, 0", l.again(0, 1), 3);
        nearTwoThousand();
        due("nothing is changed", x.at(0, 0), 500);
        for (int register : OUTSIDE) {
            due("again", x.again(register, 0), BAD);
            due("again", x.again(0, register), BAD);
        }
    }

    private static void nearTwoThousand() {
        // l17 by 1: 16 and 1 is 0 at least, so 17; p19 by 1: 19; p6 by 1: 6: 1938.
        RestRegisters x = with("l17,p19,p6");
        x.lay(1, 1);
        due("1938", x.again(0, 1), 1938);
        RestRegisters y = with("p16,p9,p7,p11");
        y.lay(1, 11);
        due("1008", y.again(0, 1), 1008);
        RestRegisters z = with("p13,p11,p14");
        z.lay(1, 1);
        due("2002", z.again(0, 1), NONE);
    }

    private static void promise25Should() {
        RestRegisters x = with("p7,l9,s10;w11,z13");
        x.lay(0, 500);
        x.lay(1, 77);
        x.lay(3, 1);
        due("500 and 1", x.should(0, 3), 20);
        due("1 and 500", x.should(3, 0), 0);
        due("500 and 77", x.should(0, 1), 18);
        due("77 and 500", x.should(1, 0), 2);
        due("1 and 1", x.should(3, 3), 28);
        due("the first wheel too", with("s5,p3").should(0, 0), 0);
        RestRegisters y = with("s5,p3");
        y.lay(1, 1);
        due("the first wheel too", y.should(0, 1), 1);
        due("nothing is changed", x.at(0, 0), 500);
        for (int register : OUTSIDE) {
            due("should", x.should(register, 0), BAD);
            due("should", x.should(0, register), BAD);
        }
    }

    private static void promise26Unseen() {
        // No checks: it is LEGAL always; some are by all less 0.5 times 0.5.
        RestRegisters honest = with("p2,p3");
        due("above", honest.unseen(0, 5, 0), 3);
        due("below", honest.unseen(0, 5, 1), 4);
        due("never: above", honest.unseen(0, 0, 0), 0);
        due("never: below", honest.unseen(0, 0, 1), 1);
        due("always: above", honest.unseen(0, 10, 0), 1);
        due("always: below", honest.unseen(0, 10, 1), 1);
        RestRegisters x = with("p7,p9,p10;p11,p13");
        x.lay(0, 500);
        due("all turn: above", x.unseen(0, 3, 0), 243);
        due("all turn: below", x.unseen(0, 3, 1), 100000);
        x.lay(1, 629);
        due("630 is not LEGAL: above", x.unseen(1, 3, 0), 0);
        due("630 is not LEGAL: below", x.unseen(1, 3, 1), 1);
        // 0 of 2, 0 of 3: 3 (the 2 turned), 4 (the 3 turned), 1 (both), of which 1 is below 2.
        RestRegisters y = with("p2;p3");
        due("both: above", y.unseen(0, 4, 0), 4);
        due("both: below", y.unseen(0, 4, 1), 25);
        // Not LEGAL ahead: 5 is 1 of 2, 2 of 3: 2 (0, 2), 3 (1, 0), 0 (both).
        y.lay(1, 5);
        due("5: above", y.unseen(1, 4, 0), 4);
        // 4 is 0 of 2, 1 of 3: 1 (1, 1) by the 2 alone; 2; 5.
        y.lay(2, 4);
        due("4: above", y.unseen(2, 4, 0), 6);
        due("4: below", y.unseen(2, 4, 1), 25);
        due("nothing is changed", y.at(2, 0), 4);
        due("no wheels: above", new RestRegisters().unseen(0, 10, 0), 0);
        due("no wheels: below", new RestRegisters().unseen(0, 10, 1), 1);
        due("c 11", x.unseen(0, 11, 0), BAD);
        due("c -1", x.unseen(0, -1, 0), BAD);
        due("what 2", x.unseen(0, 1, 2), BAD);
        due("what -1", x.unseen(0, 1, -1), BAD);
        for (int register : OUTSIDE) {
            due("unseen", x.unseen(register, 1, 0), BAD);
        }
    }

    private static void promise27And28Image() {
        RestRegisters x = new RestRegisters();
        due("no image", x.restore(), NONE);
        due("an image of nothing", x.image(), 1);
        Due.tell(x, "p2,l3;s5,w7");
        x.lay(0, 100);
        x.lay(0, 101);
        x.seed(55);
        due("an image in place of it", x.image(), 1);
        x.sheet(0, 1, 5);
        x.type('p');
        x.lay(0, 7);
        x.undo();
        x.undo();
        x.undo();
        x.lay(1, 8);
        x.seed(56);
        due("restore", x.restore(), 1);
        due("value", x.at(0, 0), 101);
        due("value", x.at(1, 0), 0);
        due("known", x.count(6), 2);
        due("the draw", x.seed(57), 55);
        due("the sheet stays", x.drop(0), 5);
        due("the tape stays", x.type('9'), 2);
        due("undo", x.undo(), 1);
        due("value", x.at(0, 0), 100);
        due("set", x.set(), 1);
        due("restore of other wheels", x.restore(), 1);
        due("wheels", x.count(0), 4);
        due("kind", x.of(3, 0), 3);
        due("SPAN", x.count(3), 210);
        due("RANGE", x.count(2), 6);
        due("check", x.of(2, 2), 1);
        due("value", x.at(0, 0), 101);
        due("undo", x.undo(), 1);
        due("undo", x.undo(), 0);
        due("value", x.at(0, 0), 0);
        x.lay(3, 33);
        due("restore once more", x.restore(), 1);
        due("value", x.at(3, 0), 0);
        due("value", x.at(0, 0), 101);
        theRingOfAnImage();
    }

    private static void theRingOfAnImage() {
        RestRegisters x = small();
        for (int k = 1; k <= 13; k++) {
            x.lay(2, k);
        }
        x.image();
        for (int k = 101; k <= 106; k++) {
            x.lay(2, k);
        }
        x.restore();
        for (int k = 12; k >= 5; k--) {
            x.undo();
            due("value", x.at(2, 0), k);
        }
        due("lost", x.undo(), NONE);
        RestRegisters y = small();
        y.seed(11);
        y.lay(0, 1);
        y.image();
        y.undo();
        y.seed(12);
        y.lay(0, 2);
        y.restore();
        y.undo();
        due("the draw ahead of what was known then", y.seed(0), 11);
    }

    private static void promise29Rubbed() {
        RestRegisters x = with("p7,p9,p10;p11,p13");
        Due.fill(x, 0, 0, -1, -1, -1, -1, -1, -1);
        due("all rubbed out", x.rubbed(0, 0, 0, 0), 630);
        due("the least", x.rubbed(0, 0, 0, 1), 0);
        due("at the end", x.rubbed(0, 0, 1, 0), 630);
        due("behind the end", x.rubbed(0, 0, 2, 0), INDEX);
        due("ahead of the row", x.rubbed(0, 0, -1, 0), INDEX);
        due("far behind it", x.rubbed(0, 0, GREATEST, 0), INDEX);
        Due.fill(x, 1, 3, 0, 3, -1, -1, -1, -1);
        // 3 by 7: 3, 10, .. 626.
        due("one told", x.rubbed(1, 3, 1, 0), 90);
        due("one told: the least", x.rubbed(1, 3, 1, 1), 3);
        // 5 by 13: 5, 18, .. 629: 49.
        x.item(1, 3, 1, -1);
        x.item(1, 3, 5, 5);
        due("a check told", x.rubbed(1, 3, 1, 0), 49);
        due("a check told: the least", x.rubbed(1, 3, 1, 1), 5);
        // 0 by 11 and 12 by 13: 77, 220, 363, 506.
        x.item(1, 3, 4, 0);
        x.item(1, 3, 5, 12);
        due("two checks told", x.rubbed(1, 3, 1, 0), 4);
        due("two checks told: the least", x.rubbed(1, 3, 1, 1), 77);
        // Of these 363 is 6 by 7, none is 5 by 7.
        x.item(1, 3, 1, 6);
        due("three told", x.rubbed(1, 3, 1, 1), 363);
        x.item(1, 3, 1, 5);
        due("three told, none has them", x.rubbed(1, 3, 1, 0), 0);
        due("three told, none has them", x.rubbed(1, 3, 1, 1), NONE);
        x.lay(0, 630);
        x.film(0, 0, 0, 0);
        due("RANGE itself", x.rubbed(0, 0, 0, 0), 0);
        due("RANGE itself", x.rubbed(0, 0, 0, 1), NONE);
        x.lay(0, 629);
        x.film(0, 0, 0, 0);
        due("RANGE less 1", x.rubbed(0, 0, 0, 0), 1);
        due("RANGE less 1", x.rubbed(0, 0, 0, 1), 629);
        Due.fill(x, 1, 3, 0, 0, -1, -1, -1, -1);
        for (long odd : new long[] {7, -2, (1L << 32) + 1, (1L << 32) - 1, Long.MIN_VALUE, Long.MAX_VALUE}) {
            x.item(1, 3, 1, odd);
            due("no rest: " + odd, x.rubbed(1, 3, 1, 0), 0);
            due("no rest: " + odd, x.rubbed(1, 3, 1, 1), NONE);
        }
        due("NULL", x.rubbed(2, 0, 0, 0), NULL);
        due("NULL ahead of INDEX", x.rubbed(2, 0, 99, 0), NULL);
        due("CAST", x.rubbed(1, 2, 0, 0), CAST);
        due("CAST ahead of INDEX", x.rubbed(1, 2, 99, 0), CAST);
        due("what 2 ahead of NULL", x.rubbed(2, 0, 0, 2), BAD);
        due("what -1 ahead of NULL", x.rubbed(2, 0, 0, -1), BAD);
        for (int k : OUTSIDE) {
            due("no sheet", x.rubbed(k, 0, 0, 0), BAD);
            due("no lane", x.rubbed(0, k, 0, 0), BAD);
        }
    }

    private static void promise30Seen() {
        RestRegisters x = with("p6;w7");
        // A PLAIN sum, of which a WORN one says 0, a STICKING one says 2.
        Due.fill(x, 0, 1, 9, 2, 3, 5, 2, 2, 4, 2, 1, 3);
        due("one", x.seen(0, 0, 1, 1, 1), 31);
        due("two", x.seen(0, 0, 1, 1, 2), 23);
        due("three", x.seen(0, 0, 1, 1, 3), 3);
        due("four", x.seen(0, 0, 1, 1, 4), INDEX);
        due("ahead", x.seen(0, 0, 1, -1, 1), INDEX);
        due("far behind", x.seen(0, 0, 1, GREATEST, 8), INDEX);
        // 5 and 4 of 6: 3, or LOSING 2, or LAZY 5.
        long[] shown = {3, 2, 5, 4, 6, -1, 259};
        int[] kinds = {5, 10, 16, 0, 0, 0, 0};
        for (int k = 0; k < shown.length; k++) {
            Due.fill(x, 2, 3, 5, 4, shown[k]);
            due("5 and 4 shown as " + shown[k], x.seen(0, 2, 3, 0, 1), kinds[k]);
        }
        // The kind of the wheel is of no matter, its width is: 5 and 4 of 7.
        Due.fill(x, 2, 3, 5, 4, 2);
        due("of 7", x.seen(1, 2, 3, 0, 1), 5);
        long[][] odd = {{6, 0, 0}, {0, 6, 0}, {-1, 1, 0}, {1, -1, 0}, {1L << 32, 0, 0}, {0, 1L << 32, 0}, {0, 0, 1L << 32}};
        for (long[] three : odd) {
            Due.fill(x, 3, 3, three);
            due("no rest", x.seen(0, 3, 3, 0, 1), 0);
        }
        Due.fill(x, 1, 0, new long[24]);
        due("eight", x.seen(0, 1, 0, 0, 8), 31);
        due("nine", x.seen(0, 1, 0, 0, 9), BAD);
        due("none", x.seen(0, 1, 0, 0, 0), BAD);
        due("-1", x.seen(0, 1, 0, 0, -1), BAD);
        due("eight from 1 on", x.seen(0, 1, 0, 1, 8), INDEX);
        due("CAST", x.seen(0, 1, 3, 99, 8), CAST);
        x.drop(1);
        due("NULL", x.seen(0, 1, 3, 99, 8), NULL);
        due("no such wheel", x.seen(2, 1, 0, 0, 1), BAD);
        due("no such wheel", x.seen(-1, 1, 0, 0, 1), BAD);
        for (int k : OUTSIDE) {
            due("no sheet", x.seen(0, k, 0, 0, 1), BAD);
            due("no lane", x.seen(0, 0, k, 0, 1), BAD);
        }
    }

    private static void promise31Film() {
        RestRegisters x = with("p7,p9,p10;p11,p13");
        x.lay(2, 333);
        for (int lane = 0; lane < 4; lane++) {
            Due.fill(x, 1, lane, -1, -1, -1, -1, -1, -1, 4);
            due("film", x.film(2, 1, lane, 1), 5);
            due("what came there", x.rubbed(1, lane, 1, 1), 333);
            due("how many", x.rubbed(1, lane, 1, 0), 1);
            due("film at the end", x.film(2, 1, lane, 2), 5);
            due("what came there", x.rubbed(1, lane, 2, 1), 333);
            due("behind the end", x.film(2, 1, lane, 3), INDEX);
            due("refused, it stays", x.rubbed(1, lane, 2, 1), 333);
            due("ahead", x.film(2, 1, lane, -1), INDEX);
            due("CAST", x.film(2, 1, (lane + 1) % 4, 99), CAST);
        }
        due("NULL", x.film(2, 0, 0, 99), NULL);
        RestRegisters one = with("p19");
        one.lay(0, 18);
        Due.fill(one, 0, 0, 7, 7, 7);
        due("film of one wheel", one.film(0, 0, 0, 1), 1);
        row("the items beside it stay", one, 0, 0, 7, 18, 7);
        for (int k : OUTSIDE) {
            due("no register", x.film(k, 0, 0, 0), BAD);
            due("no sheet", x.film(0, k, 0, 0), BAD);
            due("no lane", x.film(0, 0, k, 0), BAD);
        }
        RestRegisters none = new RestRegisters();
        none.sheet(0, 0, 0);
        due("no wheels", none.film(0, 0, 0, 0), 0);
        due("no wheels, behind the end", none.film(0, 0, 0, 1), INDEX);
        due("no wheels, ahead", none.film(0, 0, 0, -1), INDEX);
    }

    private static void promise32Sheet() {
        RestRegisters x = with("p7");
        due("none", x.sheet(0, 0, 0), 0);
        due("24", x.sheet(3, 3, 24), 24);
        due("25", x.sheet(3, 3, 25), BAD);
        due("-1", x.sheet(3, 3, -1), SIZE);
        due("the least", x.sheet(3, 3, LEAST), SIZE);
        due("the greatest", x.sheet(3, 3, GREATEST), BAD);
        due("refused, it stays", x.drop(3), 24);
        due("BAD ahead of SIZE", x.sheet(4, 0, -1), BAD);
        due("BAD ahead of SIZE", x.sheet(0, 4, -1), BAD);
        for (int k : OUTSIDE) {
            due("no sheet", x.sheet(k, 0, 1), BAD);
            due("no lane", x.sheet(0, k, 1), BAD);
        }
        Due.fill(x, 1, 2, 3, 3);
        due("a new row", x.sheet(1, 2, 2), 2);
        for (int i = 0; i < 2; i++) {
            due("a new row is 0", x.rubbed(1, 2, i, 1), 0);
            due("a new row is 0", x.rubbed(1, 2, i, 0), 1);
        }
        due("another lane", x.sheet(1, 0, 1), 1);
        due("another lane", x.item(1, 2, 0, 1), CAST);
        due("shorter", x.item(1, 0, 1, 1), INDEX);
        due("longer", x.sheet(1, 0, 2), 2);
        due("longer", x.item(1, 0, 1, 1), 1);
    }

    private static void promise33Drop() {
        RestRegisters x = new RestRegisters();
        due("nothing", x.drop(2), NULL);
        x.sheet(2, 1, 7);
        due("seven", x.drop(2), 7);
        due("nothing", x.drop(2), NULL);
        due("nothing", x.item(2, 1, 0, 0), NULL);
        x.sheet(2, 1, 0);
        due("an empty row", x.drop(2), 0);
        for (int k : OUTSIDE) {
            due("no sheet", x.drop(k), BAD);
        }
    }

    private static void promise34Item() {
        RestRegisters x = with("p19");
        long[] kept = {0x100, 0x10000, 0x100000000L};
        for (int lane = 0; lane < 4; lane++) {
            x.sheet(lane, lane, 2);
            for (int k = 0; k < 3; k++) {
                due("item", x.item(lane, lane, 1, kept[k] + 5), 1);
                due("lowest bits of lane " + lane + ", " + k, x.rubbed(lane, lane, 1, 1), lane <= k ? 5 : NONE);
                due("item", x.item(lane, lane, 1, kept[k] - 1), 1);
                due("-1 by the lowest bits of lane " + lane, x.rubbed(lane, lane, 1, 0), lane <= k ? 19 : 0);
            }
            due("the other item", x.rubbed(lane, lane, 0, 1), 0);
            due("the first item", x.item(lane, lane, 0, 18), 1);
            due("the first item", x.rubbed(lane, lane, 0, 1), 18);
            due("behind the end", x.item(lane, lane, 2, 0), INDEX);
            due("ahead", x.item(lane, lane, -1, 0), INDEX);
            due("far ahead", x.item(lane, lane, LEAST, 0), INDEX);
            due("far behind", x.item(lane, lane, GREATEST, 0), INDEX);
            due("CAST", x.item(lane, (lane + 1) % 4, 99, 0), CAST);
        }
        x.drop(0);
        due("NULL", x.item(0, 3, 99, 0), NULL);
        for (int k : OUTSIDE) {
            due("no sheet", x.item(k, 0, 0, 0), BAD);
            due("no lane", x.item(0, k, 0, 0), BAD);
        }
    }

    private static void row(String when, RestRegisters x, int sheet, int lane, int... want) {
        for (int i = 0; i < want.length; i++) {
            due(when + ": item " + i, x.rubbed(sheet, lane, i, 1), want[i]);
        }
    }

    private static void promise35Copy() {
        RestRegisters x = with("p19");
        Due.fill(x, 0, 2, 1, 2, 3, 4, 5);
        Due.fill(x, 1, 2, 11, 12, 13);
        due("copy", x.copy(0, 2, 1, 1, 2), 2);
        row("copy", x, 1, 2, 11, 3, 4);
        row("copy", x, 0, 2, 1, 2, 3, 4, 5);
        due("onwards", x.copy(0, 0, 0, 1, 4), 4);
        row("onwards", x, 0, 2, 1, 1, 2, 3, 4);
        due("back", x.copy(0, 1, 0, 0, 4), 4);
        row("back", x, 0, 2, 1, 2, 3, 4, 4);
        due("none", x.copy(0, 5, 1, 3, 0), 0);
        int[][] off = {{0, 0, 0, 4}, {3, 0, 0, 3}, {0, 0, 1, 3}, {-1, 0, 0, 1}, {0, 0, -1, 1}, {0, 0, 0, -1},
            {6, 0, 0, 0}, {0, 0, 4, 0}, {GREATEST, 0, 0, 1}, {0, 0, GREATEST, 1}, {1, 0, 1, GREATEST}, {0, 0, 0, LEAST}};
        for (int[] call : off) {
            due("copy(0, " + call[0] + ", 1, " + call[2] + ", " + call[3] + ")", x.copy(0, call[0], 1, call[2], call[3]), INDEX);
        }
        row("refused", x, 1, 2, 11, 3, 4);
        x.sheet(2, 1, 3);
        due("unlike lanes", x.copy(0, 0, 2, 0, 1), CAST);
        due("unlike lanes", x.copy(2, 99, 0, 0, -1), CAST);
        due("NULL from", x.copy(3, 99, 0, 0, 1), NULL);
        due("NULL to", x.copy(0, 99, 3, 0, 1), NULL);
        due("NULL both", x.copy(3, 99, 3, 0, 1), NULL);
        for (int k : OUTSIDE) {
            due("no sheet", x.copy(k, 0, 0, 0, 0), BAD);
            due("no sheet", x.copy(0, 0, k, 0, 0), BAD);
            due("BAD ahead of NULL", x.copy(3, 0, k, 0, 0), BAD);
        }
    }

    /** What is done to a register of six wheels, the most there are, leaves all others alone. */
    private static void allSixWheels() {
        RestRegisters x = with("p19,p17,p16,p15;p13,p11");
        int span = 11085360;
        long[] numbers = {11085359, 77519, 5000011, 123457};
        for (int register = 0; register < 4; register++) {
            x.lay(register, (int) numbers[register]);
        }
        for (int register = 0; register < 4; register++) {
            int other = (register + 1) % 4;
            numbers[register] = (numbers[register] + numbers[other]) % span;
            due("add", x.add(register, other), numbers[register]);
            numbers[register] = numbers[register] * numbers[other] % span;
            due("times", x.times(register, other), numbers[register]);
            numbers[register] = span - numbers[register];
            due("negate", x.negate(register), numbers[register]);
            for (int one = 0; one < 4; one++) {
                due("register " + one, x.at(one, 0), numbers[one]);
                due("should", x.should(one, register), 0);
            }
        }
        due("take", x.take(3, 0), numbers[0]);
        due("slip", x.slip(3, 5, (int) ((numbers[0] + 1) % 11)), numbers[0] % 11);
        due("all are PLAIN", x.count(5), 63);
        // 16 and 15 and 13 and 11 are 34320, below RANGE.
        due("apart", x.apart(), 2);
        x.lay(3, 77519);
        x.sheet(0, 0, 6);
        due("film", x.film(3, 0, 0, 0), 6);
        due("rubbed", x.rubbed(0, 0, 0, 0), 1);
        due("rubbed", x.rubbed(0, 0, 0, 1), 77519);
        x.slip(3, 0, 0);
        due("blame", x.blame(3), 1);
        due("nearest", x.nearest(3, 0), 77519);
        due("nearest", x.nearest(3, 1), 1);
        x.lay(2, 77518);
        // All six turn (77519), or those of 19, 16, 15, 13 alone (18239): 1 and 81 of a million.
        due("unseen: above", x.unseen(2, 1, 0), 41);
        due("unseen: below", x.unseen(2, 1, 1), 500000);
        due("again", x.again(3, 2), NONE);
    }
}
