import java.util.Random;

/** Runs of 512 calls by draws (of a seed told here), each answer held against the slow model's. */
public final class ModelTest {
    private static final int RUNS = 1500;
    /** An object is used for so many calls. */
    private static final int CALLS = 512;
    /** A SET that is told takes at most so many of them. */
    private static final int TELLING = 32;
    private static final int[] ODD = {-1, -2, Integer.MIN_VALUE, Integer.MAX_VALUE, 4, 5, 7, 25, 41, 1001};
    private static final String[] SETS = {
        "p2", "z2", "p2,p3", "l2;s3", "p2,l3;s5,w7", "w7;z9", "p7,p9,p10;p11", "l7,s9;p4,p5", "z4,w3,l5;s7,z11",
        "w13;l2,s3", "p2;p19,p17", "s19;w18,z17", "p5,p6;p7", "p7,p9,p10;p11,p13", "p7,l9,s10;w11,z13",
        "p19,l17,s16,w15;z13,p11", "p 2 , l 3 ; s 05 ", "p2,p3,p5,p7;p11,p13", "w11,w13", "l8,l9,l5", "z6;z5,z7",
    };

    private final Random draws;
    private final RestRegisters x = new RestRegisters();
    private final SlowModel m = new SlowModel();
    private int calls = 0;
    private final int run;

    private ModelTest(int run) {
        this.run = run;
        draws = new Random(run);
    }

    public static void main(String[] args) {
        for (int run = 0; run < RUNS; run++) {
            new ModelTest(run).wholeRun();
        }
        Due.end("ModelTest");
    }

    private void due(String call, long got, long want) {
        calls++;
        Due.due("run " + run + ", call " + calls + ": " + call, got, want);
    }

    private void wholeRun() {
        if (run % 10 != 0) {
            tell(SETS[draws.nextInt(SETS.length)]);
        }
        while (calls < CALLS - TELLING) {
            oneCall(draws.nextInt(run % 3 == 0 ? 40 : 37));
        }
        while (calls < CALLS) {
            if (draws.nextBoolean()) {
                oneDone(draws.nextInt(10));
            } else {
                oneForetold(draws.nextInt(10));
            }
        }
        Due.due("run " + run + ": how many calls", calls, CALLS);
    }

    private int below(int bound) {
        return draws.nextInt(25) == 0 ? ODD[draws.nextInt(ODD.length)] : draws.nextInt(bound);
    }

    private int register() {
        return below(4);
    }

    private int wheel() {
        return below(Math.max(1, m.count(0)));
    }

    private int lane() {
        return draws.nextInt(6) == 0 ? below(4) : 2 + run % 2;
    }

    private long value() {
        switch (draws.nextInt(8)) {
            case 0: return draws.nextLong();
            case 1: return (1L << 8 * (1 + draws.nextInt(7))) + draws.nextInt(20) - 1;
            case 2:
            case 3: return -1;
            default: return draws.nextInt(20) - 1;
        }
    }

    private void tell(String text) {
        for (int k = 0; k < text.length(); k++) {
            int letter = text.charAt(k);
            due("type(" + letter + ")", x.type(letter), m.type(letter));
        }
        due("set()", x.set(), m.set());
    }

    /** A set with some letters of it changed, left out or put in. */
    private void tellNearly() {
        StringBuilder text = new StringBuilder(SETS[draws.nextInt(SETS.length)]);
        String letters = "plswz,;0123456789 x";
        for (int k = draws.nextInt(4); k > 0; k--) {
            int place = draws.nextInt(text.length());
            char letter = letters.charAt(draws.nextInt(letters.length()));
            switch (draws.nextInt(3)) {
                case 0 -> text.setCharAt(place, letter);
                case 1 -> text.insert(place, letter);
                default -> text.setLength(Math.max(1, place));
            }
        }
        tell(text.toString());
    }

    private void oneCall(int which) {
        switch (which % 4) {
            case 0 -> oneShown(which / 4);
            case 1 -> oneDone(which / 4);
            case 2 -> oneForetold(which / 4);
            default -> oneOfSheets(which / 4);
        }
    }

    private void oneShown(int which) {
        int a = register();
        int b = wheel();
        int c = below(20);
        int d = below(20);
        int e = below(2);
        int w = below(4);
        int v = below(7);
        switch (which) {
            case 0, 1 -> due("of(" + b + ", " + w + ")", x.of(b, w), m.of(b, w));
            case 2, 3 -> due("rest(" + a + ", " + b + ")", x.rest(a, b), m.rest(a, b));
            case 4, 5 -> due("at(" + a + ", " + e + ")", x.at(a, e), m.at(a, e));
            case 6 -> due("shows(" + b + ", " + c + ", " + d + ", " + e + ")", x.shows(b, c, d, e), m.shows(b, c, d, e));
            case 7, 8 -> due("count(" + v + ")", x.count(v), m.count(v));
            default -> tellNearly();
        }
    }

    private void oneDone(int which) {
        int a = register();
        int b = register();
        int c = wheel();
        int d = below(20);
        int n = below(Math.max(1, draws.nextBoolean() ? m.count(3) : 2 * m.count(2)));
        int t = draws.nextInt(4) == 0 ? below(42) : 1 + below(3);
        int v = draws.nextInt(4) == 0 ? below(9) : draws.nextInt();
        switch (which) {
            case 0 -> due("lay(" + a + ", " + n + ")", x.lay(a, n), m.lay(a, n));
            case 1 -> due("add(" + a + ", " + b + ")", x.add(a, b), m.add(a, b));
            case 2 -> due("times(" + a + ", " + b + ")", x.times(a, b), m.times(a, b));
            case 3 -> due("negate(" + a + ")", x.negate(a), m.negate(a));
            case 4 -> due("slip(" + a + ", " + c + ", " + d + ")", x.slip(a, c, d), m.slip(a, c, d));
            case 5 -> due("take(" + a + ", " + b + ")", x.take(a, b), m.take(a, b));
            case 6 -> due("drift(" + t + ")", x.drift(t), m.drift(t));
            case 7 -> due("undo()", x.undo(), m.undo());
            case 8 -> due("seed(" + v + ")", x.seed(v), m.seed(v));
            default -> due("type(" + v + ")", x.type(v), m.type(v));
        }
    }

    private void oneForetold(int which) {
        int a = register();
        int b = register();
        int c = wheel();
        int e = below(2);
        int n = draws.nextBoolean() ? below(1002) : below(20);
        int t = below(12);
        switch (which) {
            case 0 -> due("figure(" + a + ", " + c + ")", x.figure(a, c), m.figure(a, c));
            case 1 -> due("order(" + a + ", " + b + ")", x.order(a, b), m.order(a, b));
            case 2 -> due("blame(" + a + ")", x.blame(a), m.blame(a));
            case 3 -> due("nearest(" + a + ", " + e + ")", x.nearest(a, e), m.nearest(a, e));
            case 4 -> due("apart()", x.apart(), m.apart());
            case 5 -> due("sum(" + a + ", " + b + ", " + n + ", " + c + ")", x.sum(a, b, n, c), m.sum(a, b, n, c));
            case 6 -> due("again(" + a + ", " + b + ")", x.again(a, b), m.again(a, b));
            case 7 -> due("should(" + a + ", " + b + ")", x.should(a, b), m.should(a, b));
            case 8 -> due("unseen(" + a + ", " + t + ", " + e + ")", x.unseen(a, t, e), m.unseen(a, t, e));
            default -> {
                if (draws.nextInt(3) == 0) {
                    due("image()", x.image(), m.image());
                } else {
                    due("restore()", x.restore(), m.restore());
                }
            }
        }
    }

    private void oneOfSheets(int which) {
        int a = register();
        int h = below(4);
        int g = below(4);
        int l = lane();
        int i = draws.nextInt(3) == 0 ? below(25) : below(3);
        int j = below(8);
        int e = below(2);
        int n = below(10);
        int w = wheel();
        int z = draws.nextInt(3) == 0 ? below(27) - 1 : 24;
        long v = value();
        switch (which) {
            case 0 -> due("rubbed(" + h + ", " + l + ", " + i + ", " + e + ")", x.rubbed(h, l, i, e), m.rubbed(h, l, i, e));
            case 1 -> due("seen(" + w + ", " + h + ", " + l + ", " + i + ", " + n + ")", x.seen(w, h, l, i, n), m.seen(w, h, l, i, n));
            case 2 -> due("film(" + a + ", " + h + ", " + l + ", " + i + ")", x.film(a, h, l, i), m.film(a, h, l, i));
            case 3 -> due("sheet(" + h + ", " + l + ", " + z + ")", x.sheet(h, l, z), m.sheet(h, l, z));
            case 4 -> dropSeldom(h);
            case 5, 6 -> due("item(" + h + ", " + l + ", " + i + ", " + v + ")", x.item(h, l, i, v), m.item(h, l, i, v));
            case 7 -> due("copy(" + h + ", " + i + ", " + g + ", " + j + ", " + n + ")", x.copy(h, i, g, j, n), m.copy(h, i, g, j, n));
            case 8 -> seenSums(h, l, w);
            default -> filmRubbed(a, h, l);
        }
    }

    private void dropSeldom(int h) {
        if (draws.nextInt(3) == 0) {
            due("drop(" + h + ")", x.drop(h), m.drop(h));
        }
    }

    /** Sums that some kind shows in truth, so that SEEN does not answer 0 almost always. */
    private void seenSums(int h, int l, int w) {
        if (m.count(0) == 0) {
            return;
        }
        int wheel = draws.nextInt(m.count(0));
        int width = m.of(wheel, 1);
        int kind = draws.nextInt(5);
        for (int k = 0; k < 2; k++) {
            int a = draws.nextInt(width);
            int b = draws.nextInt(width);
            int[] three = {a, b, SlowModel.plus(kind, width, a, b)};
            for (int i = 0; i < 3; i++) {
                int place = 3 * k + i;
                due("item(" + h + ", " + l + ", " + place + ", " + three[i] + ")", x.item(h, l, place, three[i]), m.item(h, l, place, three[i]));
            }
        }
        due("seen(" + wheel + ", " + h + ", " + l + ", 0, 2)", x.seen(wheel, h, l, 0, 2), m.seen(wheel, h, l, 0, 2));
        due("seen(" + w + ", " + h + ", " + l + ", 3, 1)", x.seen(w, h, l, 3, 1), m.seen(w, h, l, 3, 1));
    }

    /** Rests of a register, some then rubbed out. */
    private void filmRubbed(int a, int h, int l) {
        due("film(" + a + ", " + h + ", " + l + ", 0)", x.film(a, h, l, 0), m.film(a, h, l, 0));
        for (int k = 0; k < m.count(0); k++) {
            if (draws.nextBoolean()) {
                due("item(" + h + ", " + l + ", " + k + ", -1)", x.item(h, l, k, -1), m.item(h, l, k, -1));
            }
        }
        due("rubbed(" + h + ", " + l + ", 0, 0)", x.rubbed(h, l, 0, 0), m.rubbed(h, l, 0, 0));
        due("rubbed(" + h + ", " + l + ", 0, 1)", x.rubbed(h, l, 0, 1), m.rubbed(h, l, 0, 1));
    }
}
