/** Registers of a few wheels of unlike widths: a number is told by what it leaves over by each of them. */
public final class RestRegisters {
    public static final int BAD = -1, NOT = -2, FULL = -3, NONE = -4, NULL = -11, CAST = -12, INDEX = -13, SIZE = -14;

    private static final int FINE = 0;
    private static final int REGISTERS = 4;
    private static final int SHEETS = 4;
    private static final int LANES = 4;
    private static final int MOST_TURNS = 40;
    private static final int MOST_SUMS = 1000;
    private static final int MOST_ROUNDS = 2000;
    private static final int MOST_SEEN = 8;
    private static final int OF_TEN = 10;

    private final Tape tape;
    private final Bank now;
    private final Bank kept;
    private boolean hasImage;
    private final Sheet[] sheets;

    public RestRegisters() {
        tape = new Tape();
        now = new Bank();
        kept = new Bank();
        sheets = new Sheet[SHEETS];
        for (int k = 0; k < SHEETS; k++) {
            sheets[k] = new Sheet();
        }
    }

    // ---- 1 wheels, registers

    public int type(int letter) {
        if (letter < 32 || letter > 126) {
            return BAD;
        }
        if (tape.isFull()) {
            return FULL;
        }
        tape.append(letter);
        return tape.length;
    }

    public int set() {
        int answer = tape.parse();
        tape.length = 0;
        if (answer >= 0) {
            now.begin(tape.draft);
        }
        return answer;
    }

    public int of(int wheel, int what) {
        if (!isWheel(wheel)) {
            return BAD;
        }
        Wheels wheels = now.wheels;
        switch (what) {
            case 0: return wheels.kinds[wheel];
            case 1: return wheels.widths[wheel];
            case 2: return wheel >= wheels.honest ? 1 : 0;
            case 3: return wheels.wrongSums(wheel);
            default: return BAD;
        }
    }

    public int rest(int register, int wheel) {
        return isRegister(register) && isWheel(wheel) ? now.shown(register, wheel) : BAD;
    }

    public int at(int register, int what) {
        if (!isRegister(register) || !isBelow(what, 2)) {
            return BAD;
        }
        if (what == 0) {
            return now.value(register);
        }
        return now.isLegal(register) ? 1 : 0;
    }

    public int shows(int wheel, int a, int b, int what) {
        if (!isWheel(wheel) || !isBelow(what, 2)) {
            return BAD;
        }
        Wheels wheels = now.wheels;
        if (!isBelow(a, wheels.widths[wheel]) || !isBelow(b, wheels.widths[wheel])) {
            return BAD;
        }
        return what == 0 ? wheels.added(wheel, a, b) : wheels.multiplied(wheel, a, b);
    }

    public int count(int what) {
        Wheels wheels = now.wheels;
        switch (what) {
            case 0: return wheels.size;
            case 1: return wheels.honest;
            case 2: return wheels.range;
            case 3: return wheels.span;
            case 4: return now.legalOnes();
            case 5: return wheels.plainOnes();
            case 6: return now.known;
            default: return BAD;
        }
    }

    // ---- what is done

    public int lay(int register, int number) {
        if (!isRegister(register) || !isBelow(number, now.wheels.span)) {
            return BAD;
        }
        int before = now.value(register);
        now.remember();
        now.put(register, number);
        return before;
    }

    public int add(int register, int other) {
        if (!isRegister(register) || !isRegister(other)) {
            return BAD;
        }
        now.remember();
        now.addTo(register, other);
        return now.value(register);
    }

    public int times(int register, int other) {
        if (!isRegister(register) || !isRegister(other)) {
            return BAD;
        }
        now.remember();
        now.multiplyBy(register, other);
        return now.value(register);
    }

    public int negate(int register) {
        if (!isRegister(register)) {
            return BAD;
        }
        now.remember();
        now.turnAbout(register);
        return now.value(register);
    }

    public int slip(int register, int wheel, int rest) {
        if (!isRegister(register) || !isWheel(wheel) || !isBelow(rest, now.wheels.widths[wheel])) {
            return BAD;
        }
        int before = now.shown(register, wheel);
        if (before == rest) {
            return NOT;
        }
        now.remember();
        now.show(register, wheel, rest);
        return before;
    }

    public int take(int register, int other) {
        if (!isRegister(register) || !isRegister(other) || register == other) {
            return BAD;
        }
        now.remember();
        now.takeOver(register, other);
        return now.value(register);
    }

    public int drift(int n) {
        if (n < 1 || n > MOST_TURNS) {
            return BAD;
        }
        for (int turn = 0; turn < n; turn++) {
            now.remember();
            now.driftOnce();
        }
        return now.legalOnes();
    }

    public int undo() {
        return now.goBack() ? now.known : NONE;
    }

    public int seed(int v) {
        if (v < 0) {
            return BAD;
        }
        int before = now.draw;
        now.draw = v;
        return before;
    }

    // ---- 2 foretold

    public int figure(int register, int k) {
        return isRegister(register) && isWheel(k) ? now.wheels.mixedFigure(now.value(register), k) : BAD;
    }

    public int order(int register, int other) {
        if (!isRegister(register) || !isRegister(other)) {
            return BAD;
        }
        return 1 + Integer.compare(now.value(register), now.value(other));
    }

    public int blame(int register) {
        return isRegister(register) ? now.wheels.blamed(now.value(register)) : BAD;
    }

    public int nearest(int register, int what) {
        if (!isRegister(register) || !isBelow(what, 2)) {
            return BAD;
        }
        Wheels wheels = now.wheels;
        int value = now.value(register);
        int alike = wheels.mostAlike(value);
        return what == 0 ? wheels.leastAlike(value, alike) : wheels.size - alike;
    }

    public int apart() {
        return now.wheels.range == 1 ? NONE : now.wheels.fewestUnlike();
    }

    public int sum(int register, int other, int n, int wheel) {
        if (!isRegister(register) || !isRegister(other) || n < 0 || n > MOST_SUMS || !isWheel(wheel)) {
            return BAD;
        }
        return now.wheels.addedOften(wheel, now.shown(register, wheel), now.shown(other, wheel), n);
    }

    public int again(int register, int other) {
        if (!isRegister(register) || !isRegister(other)) {
            return BAD;
        }
        int all = 1;
        for (int wheel = 0; wheel < now.wheels.size; wheel++) {
            int one = now.wheels.round(wheel, now.shown(register, wheel), now.shown(other, wheel));
            if (one == 0) {
                return NONE;
            }
            all = all / commonPart(all, one) * one;
            if (all > MOST_ROUNDS) {
                return NONE;
            }
        }
        return all;
    }

    public int should(int register, int other) {
        return isRegister(register) && isRegister(other) ? now.wrongOnes(register, other) : BAD;
    }

    public int unseen(int register, int c, int what) {
        if (!isRegister(register) || c < 0 || c > OF_TEN || !isBelow(what, 2)) {
            return BAD;
        }
        int above = now.wheels.unseenCases(now.value(register), c);
        int below = power(OF_TEN, now.wheels.size);
        int part = commonPart(above, below);
        return what == 0 ? above / part : below / part;
    }

    public int image() {
        kept.becomeLike(now);
        hasImage = true;
        return 1;
    }

    public int restore() {
        if (!hasImage) {
            return NONE;
        }
        now.becomeLike(kept);
        return 1;
    }

    // ---- 3 sheets

    public int rubbed(int sheet, int lane, int i, int what) {
        if (!isSheet(sheet) || !isLane(lane) || !isBelow(what, 2)) {
            return BAD;
        }
        Wheels wheels = now.wheels;
        Sheet row = sheets[sheet];
        int refusal = row.refusal(lane, i, wheels.size);
        if (refusal != FINE) {
            return refusal;
        }
        int least = wheels.leastFitting(row.items, i);
        if (what == 1) {
            return least;
        }
        return least == NONE ? 0 : wheels.howManyFrom(least, wheels.told(row.items, i));
    }

    public int seen(int wheel, int sheet, int lane, int i, int n) {
        if (!isWheel(wheel) || !isSheet(sheet) || !isLane(lane) || n < 1 || n > MOST_SEEN) {
            return BAD;
        }
        Sheet row = sheets[sheet];
        int refusal = row.refusal(lane, i, 3 * n);
        return refusal != FINE ? refusal : Wheels.kindsSeen(now.wheels.widths[wheel], row.items, i, n);
    }

    public int film(int register, int sheet, int lane, int i) {
        if (!isRegister(register) || !isSheet(sheet) || !isLane(lane)) {
            return BAD;
        }
        Sheet row = sheets[sheet];
        int many = now.wheels.size;
        int refusal = row.refusal(lane, i, many);
        if (refusal != FINE) {
            return refusal;
        }
        for (int wheel = 0; wheel < many; wheel++) {
            row.items[i + wheel] = now.shown(register, wheel);
        }
        return many;
    }

    public int sheet(int sheet, int lane, int n) {
        if (!isSheet(sheet) || !isLane(lane) || n > Sheet.MOST_ITEMS) {
            return BAD;
        }
        if (n < 0) {
            return SIZE;
        }
        sheets[sheet].hold(lane, n);
        return n;
    }

    public int drop(int sheet) {
        if (!isSheet(sheet)) {
            return BAD;
        }
        Sheet row = sheets[sheet];
        if (!row.isThere) {
            return NULL;
        }
        row.isThere = false;
        return row.length;
    }

    public int item(int sheet, int lane, int i, long v) {
        if (!isSheet(sheet) || !isLane(lane)) {
            return BAD;
        }
        Sheet row = sheets[sheet];
        int refusal = row.refusal(lane, i, 1);
        if (refusal != FINE) {
            return refusal;
        }
        row.items[i] = Sheet.lowestBits(lane, v);
        return 1;
    }

    public int copy(int from, int i, int to, int j, int n) {
        if (!isSheet(from) || !isSheet(to)) {
            return BAD;
        }
        Sheet source = sheets[from];
        Sheet target = sheets[to];
        if (!source.isThere || !target.isThere) {
            return NULL;
        }
        if (source.lane != target.lane) {
            return CAST;
        }
        if (!source.has(i, n) || !target.has(j, n)) {
            return INDEX;
        }
        System.arraycopy(source.items, i, target.items, j, n);
        return n;
    }

    private static boolean isBelow(int number, int bound) {
        return number >= 0 && number < bound;
    }

    private static boolean isRegister(int register) {
        return isBelow(register, REGISTERS);
    }

    private static boolean isSheet(int sheet) {
        return isBelow(sheet, SHEETS);
    }

    private static boolean isLane(int lane) {
        return isBelow(lane, LANES);
    }

    private boolean isWheel(int wheel) {
        return isBelow(wheel, now.wheels.size);
    }

    /** Euclid's way; the counter is there for an end that can be seen: ints need fewer than 48 steps. */
    private static int commonPart(int a, int b) {
        int greater = a;
        int less = b;
        for (int step = 0; step < 64 && less != 0; step++) {
            int left = greater % less;
            greater = less;
            less = left;
        }
        return greater;
    }

    private static int power(int base, int exponent) {
        int product = 1;
        for (int k = 0; k < exponent; k++) {
            product *= base;
        }
        return product;
    }

    /** A set of wheels, and all that is known of a number by its VALUE alone. */
    private static final class Wheels {
        static final int MOST = 6;
        static final int WIDEST = 19;
        static final int KINDS = 5;
        static final int PLAIN = 0, LOSING = 1, STICKING = 2, WORN = 3, LAZY = 4;

        int size;
        int honest;
        int range = 1;
        int span = 1;
        final int[] kinds = new int[MOST];
        final int[] widths = new int[MOST];
        /** Of each wheel the number below SPAN that leaves 1 there and nothing at the others. */
        final int[] shares = new int[MOST];

        void clear() {
            size = 0;
            honest = 0;
            range = 1;
            span = 1;
        }

        boolean mayHave(int width) {
            if (width < 2 || width > WIDEST || size >= MOST) {
                return false;
            }
            for (int wheel = 0; wheel < size; wheel++) {
                if (commonPart(widths[wheel], width) != 1) {
                    return false;
                }
            }
            return true;
        }

        /** Only behind mayHave. */
        void append(int kind, int width, boolean isCheck) {
            kinds[size] = kind;
            widths[size] = width;
            size++;
            span *= width;
            if (!isCheck) {
                honest++;
                range *= width;
            }
        }

        void becomeLike(Wheels other) {
            size = other.size;
            honest = other.honest;
            range = other.range;
            span = other.span;
            System.arraycopy(other.kinds, 0, kinds, 0, MOST);
            System.arraycopy(other.widths, 0, widths, 0, MOST);
            System.arraycopy(other.shares, 0, shares, 0, MOST);
        }

        void findShares() {
            for (int wheel = 0; wheel < size; wheel++) {
                int width = widths[wheel];
                int others = span / width;
                for (int k = 1; k < width; k++) {
                    if (others * k % width == 1) {
                        shares[wheel] = others * k;
                    }
                }
            }
        }

        static int addedPlain(int width, int a, int b) {
            return (a + b) % width;
        }

        static int addedLosing(int width, int a, int b) {
            return a + b < width ? a + b : Math.max(a + b - width - 1, 0);
        }

        static int addedByKind(int kind, int width, int a, int b) {
            switch (kind) {
                case LOSING: return addedLosing(width, a, b);
                case STICKING: return b == 1 ? a : addedPlain(width, a, b);
                case WORN: return a == b ? 0 : addedLosing(width, a, b);
                case LAZY: return b == 1 || b > width / 2 ? a : addedPlain(width, a, b);
                default: return addedPlain(width, a, b);
            }
        }

        int added(int wheel, int a, int b) {
            return addedByKind(kinds[wheel], widths[wheel], a, b);
        }

        int addedOften(int wheel, int a, int b, int n) {
            int shown = a;
            for (int k = 0; k < n; k++) {
                shown = added(wheel, shown, b);
            }
            return shown;
        }

        int multiplied(int wheel, int a, int b) {
            return addedOften(wheel, 0, a, b);
        }

        boolean isWrong(int wheel, int a, int b) {
            return added(wheel, a, b) != addedPlain(widths[wheel], a, b);
        }

        int wrongSums(int wheel) {
            int wrong = 0;
            for (int a = 0; a < widths[wheel]; a++) {
                for (int b = 0; b < widths[wheel]; b++) {
                    wrong += isWrong(wheel, a, b) ? 1 : 0;
                }
            }
            return wrong;
        }

        /** Behind how many sums the wheel shows a again; it has so few rests that it must be soon or (0) never. */
        int round(int wheel, int a, int b) {
            int shown = a;
            for (int n = 1; n <= widths[wheel]; n++) {
                shown = added(wheel, shown, b);
                if (shown == a) {
                    return n;
                }
            }
            return 0;
        }

        int plainOnes() {
            int ones = 0;
            for (int wheel = 0; wheel < size; wheel++) {
                ones |= kinds[wheel] == PLAIN ? 1 << wheel : 0;
            }
            return ones;
        }

        int mixedFigure(int value, int k) {
            int left = value;
            for (int wheel = 0; wheel < k; wheel++) {
                left /= widths[wheel];
            }
            return left % widths[k];
        }

        static boolean isIn(int ones, int wheel) {
            return (ones >> wheel & 1) == 1;
        }

        int product(int ones) {
            int all = 1;
            for (int wheel = 0; wheel < size; wheel++) {
                all *= isIn(ones, wheel) ? widths[wheel] : 1;
            }
            return all;
        }

        /** By one wheel's rests alone VALUE moves by steps of the others' product; the least of these tells. */
        int blamed(int value) {
            int ones = 0;
            if (value >= range) {
                for (int wheel = 0; wheel < size; wheel++) {
                    ones |= value % (span / widths[wheel]) < range ? 1 << wheel : 0;
                }
            }
            return ones;
        }

        /** The least number that agrees at some wheels is VALUE left over by their product: no search below RANGE. */
        int mostAlike(int value) {
            int most = 0;
            for (int ones = 0; ones < 1 << size; ones++) {
                if (value % product(ones) < range) {
                    most = Math.max(most, Integer.bitCount(ones));
                }
            }
            return most;
        }

        int leastAlike(int value, int alike) {
            int least = range;
            for (int ones = 0; ones < 1 << size; ones++) {
                if (Integer.bitCount(ones) == alike) {
                    least = Math.min(least, value % product(ones));
                }
            }
            return least;
        }

        /** Two numbers agree at some wheels if their product parts them, and it must have room below RANGE. */
        int fewestUnlike() {
            int most = 0;
            for (int ones = 0; ones < 1 << size; ones++) {
                if (product(ones) < range) {
                    most = Math.max(most, Integer.bitCount(ones));
                }
            }
            return size - most;
        }

        /** Of 10 to the power of all wheels so many cases: a rest that is 1 more makes VALUE its share more. */
        int unseenCases(int value, int c) {
            int cases = 0;
            for (int ones = 1; ones < 1 << size; ones++) {
                if (turnedOn(value, ones) < range) {
                    int many = Integer.bitCount(ones);
                    cases += power(c, many) * power(OF_TEN - c, size - many);
                }
            }
            return cases;
        }

        int turnedOn(int value, int ones) {
            int turned = value;
            for (int wheel = 0; wheel < size; wheel++) {
                if (isIn(ones, wheel)) {
                    turned = (turned + shares[wheel]) % span;
                }
            }
            return turned;
        }

        /** The wheels of which a row, whose items have been looked at, tells something. */
        int told(long[] row, int from) {
            int ones = 0;
            for (int wheel = 0; wheel < size; wheel++) {
                ones |= row[from + wheel] == -1 ? 0 : 1 << wheel;
            }
            return ones;
        }

        int leastFitting(long[] row, int from) {
            int value = 0;
            for (int wheel = 0; wheel < size; wheel++) {
                long rest = row[from + wheel];
                if (rest < -1 || rest >= widths[wheel]) {
                    return NONE;
                }
                if (rest != -1) {
                    value = (value + (int) rest * shares[wheel]) % span;
                }
            }
            int least = value % product(told(row, from));
            return least < range ? least : NONE;
        }

        int howManyFrom(int least, int ones) {
            return (range - 1 - least) / product(ones) + 1;
        }

        static int kindsSeen(int width, long[] row, int from, int n) {
            int ones = 0;
            for (int kind = 0; kind < KINDS; kind++) {
                ones |= isKindSeen(kind, width, row, from, n) ? 1 << kind : 0;
            }
            return ones;
        }

        static boolean isKindSeen(int kind, int width, long[] row, int from, int n) {
            for (int k = from; k < from + 3 * n; k += 3) {
                long a = row[k];
                long b = row[k + 1];
                if (a < 0 || a >= width || b < 0 || b >= width) {
                    return false;
                }
                if (addedByKind(kind, width, (int) a, (int) b) != row[k + 2]) {
                    return false;
                }
            }
            return true;
        }
    }

    /** All that an image keeps: the wheels, what the registers show, the draw, and what may be undone. */
    private static final class Bank {
        static final int MOST_KNOWN = 8;
        static final int RESTS = REGISTERS * Wheels.MOST;
        static final int LOWEST_31_BITS = 0x7fffffff;

        final Wheels wheels = new Wheels();
        final int[] rests = new int[RESTS];
        int draw = 1;
        int known;
        /** The place in the ring for what is remembered next. */
        int next;
        final int[] pastRests = new int[MOST_KNOWN * RESTS];
        final int[] pastDraws = new int[MOST_KNOWN];

        void begin(Wheels others) {
            wheels.becomeLike(others);
            for (int k = 0; k < RESTS; k++) {
                rests[k] = 0;
            }
            known = 0;
        }

        void becomeLike(Bank other) {
            wheels.becomeLike(other.wheels);
            draw = other.draw;
            known = other.known;
            next = other.next;
            System.arraycopy(other.rests, 0, rests, 0, RESTS);
            System.arraycopy(other.pastRests, 0, pastRests, 0, MOST_KNOWN * RESTS);
            System.arraycopy(other.pastDraws, 0, pastDraws, 0, MOST_KNOWN);
        }

        void remember() {
            System.arraycopy(rests, 0, pastRests, next * RESTS, RESTS);
            pastDraws[next] = draw;
            next = (next + 1) % MOST_KNOWN;
            known = Math.min(known + 1, MOST_KNOWN);
        }

        boolean goBack() {
            if (known == 0) {
                return false;
            }
            known--;
            next = (next + MOST_KNOWN - 1) % MOST_KNOWN;
            System.arraycopy(pastRests, next * RESTS, rests, 0, RESTS);
            draw = pastDraws[next];
            return true;
        }

        int shown(int register, int wheel) {
            return rests[register * Wheels.MOST + wheel];
        }

        void show(int register, int wheel, int rest) {
            rests[register * Wheels.MOST + wheel] = rest;
        }

        int value(int register) {
            int value = 0;
            for (int wheel = 0; wheel < wheels.size; wheel++) {
                value = (value + shown(register, wheel) * wheels.shares[wheel]) % wheels.span;
            }
            return value;
        }

        boolean isLegal(int register) {
            return value(register) < wheels.range;
        }

        int legalOnes() {
            int ones = 0;
            for (int register = 0; register < REGISTERS; register++) {
                ones |= isLegal(register) ? 1 << register : 0;
            }
            return ones;
        }

        int wrongOnes(int register, int other) {
            int ones = 0;
            for (int wheel = 0; wheel < wheels.size; wheel++) {
                ones |= wheels.isWrong(wheel, shown(register, wheel), shown(other, wheel)) ? 1 << wheel : 0;
            }
            return ones;
        }

        void put(int register, int number) {
            for (int wheel = 0; wheel < wheels.size; wheel++) {
                show(register, wheel, number % wheels.widths[wheel]);
            }
        }

        void addTo(int register, int other) {
            for (int wheel = 0; wheel < wheels.size; wheel++) {
                show(register, wheel, wheels.added(wheel, shown(register, wheel), shown(other, wheel)));
            }
        }

        void multiplyBy(int register, int other) {
            for (int wheel = 0; wheel < wheels.size; wheel++) {
                show(register, wheel, wheels.multiplied(wheel, shown(register, wheel), shown(other, wheel)));
            }
        }

        void turnAbout(int register) {
            for (int wheel = 0; wheel < wheels.size; wheel++) {
                int rest = shown(register, wheel);
                show(register, wheel, rest == 0 ? 0 : wheels.widths[wheel] - rest);
            }
        }

        void takeOver(int register, int other) {
            for (int wheel = 0; wheel < wheels.size; wheel++) {
                show(register, wheel, shown(other, wheel));
            }
        }

        void driftOnce() {
            draw = (draw * 1103515245 + 12345) & LOWEST_31_BITS;
            int register = draw / 65536 % REGISTERS;
            addTo(register, draw / 128 % REGISTERS);
            if (wheels.size > 0 && draw / 2048 % 5 == 0) {
                int wheel = draw / 256 % wheels.size;
                show(register, wheel, (shown(register, wheel) + 1) % wheels.widths[wheel]);
            }
        }
    }

    /** The letters told so far, and the reading of them as a SET. */
    private static final class Tape {
        static final int MOST_LETTERS = 40;
        static final int MOST_HONEST = 4;
        static final int MOST_CHECKS = 2;
        static final int FIRST_FAULT = -20;
        static final int END = -1;
        static final String KIND_LETTERS = "plswz";

        final int[] letters = new int[MOST_LETTERS];
        int length;
        int place;
        /** What is read stands here, so that a fault leaves the wheels in use alone. */
        final Wheels draft = new Wheels();

        boolean isFull() {
            return length >= MOST_LETTERS;
        }

        /** Only if it is not full. */
        void append(int letter) {
            letters[length] = letter;
            length++;
        }

        /** How many wheels are in the draft, or a fault. */
        int parse() {
            place = 0;
            draft.clear();
            int fault = parseGroup(MOST_HONEST, false);
            if (fault == FINE && ahead() == ';') {
                place++;
                fault = parseGroup(MOST_CHECKS, true);
            }
            if (fault == FINE && ahead() != END) {
                fault = faultAt(place);
            }
            if (fault != FINE) {
                return fault;
            }
            draft.findShares();
            return draft.size;
        }

        int parseGroup(int most, boolean isCheck) {
            for (int many = 1; many <= most; many++) {
                int fault = parseWheel(isCheck);
                if (fault != FINE || many == most || ahead() != ',') {
                    return fault;
                }
                place++;
            }
            return FINE;
        }

        int parseWheel(boolean isCheck) {
            int letter = ahead();
            int kind = letter == END ? -1 : KIND_LETTERS.indexOf((char) letter);
            if (kind < 0) {
                return faultAt(place);
            }
            place++;
            if (!isDigit(ahead())) {
                return faultAt(place);
            }
            int first = place;
            int width = parseNumber();
            if (!draft.mayHave(width)) {
                return faultAt(first);
            }
            draft.append(kind, width, isCheck);
            return FINE;
        }

        /** Not by ahead(): a blank ends the number. */
        int parseNumber() {
            int number = 0;
            int end = Math.min(place + 2, length);
            while (place < end && isDigit(letters[place])) {
                number = number * 10 + letters[place] - '0';
                place++;
            }
            return number;
        }

        int ahead() {
            while (place < length && letters[place] == ' ') {
                place++;
            }
            return place < length ? letters[place] : END;
        }

        static boolean isDigit(int letter) {
            return letter >= '0' && letter <= '9';
        }

        static int faultAt(int place) {
            return FIRST_FAULT - place;
        }
    }

    /** A row of a lane, or nothing; one array serves all lanes, as what it is given is cut to the lane first. */
    private static final class Sheet {
        static final int MOST_ITEMS = 24;

        boolean isThere;
        int lane;
        int length;
        final long[] items = new long[MOST_ITEMS];

        void hold(int newLane, int newLength) {
            isThere = true;
            lane = newLane;
            length = newLength;
            for (int k = 0; k < MOST_ITEMS; k++) {
                items[k] = 0;
            }
        }

        int refusal(int wantedLane, int i, int n) {
            if (!isThere) {
                return NULL;
            }
            if (lane != wantedLane) {
                return CAST;
            }
            return has(i, n) ? FINE : INDEX;
        }

        /** By length less n: i and n together may be more than an int holds. */
        boolean has(int i, int n) {
            return i >= 0 && n >= 0 && n <= length && i <= length - n;
        }

        static long lowestBits(int lane, long v) {
            switch (lane) {
                case 0: return (byte) v;
                case 1: return (short) v;
                case 2: return (int) v;
                default: return v;
            }
        }
    }
}
