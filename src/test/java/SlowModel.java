import java.lang.reflect.Array;
import java.math.BigInteger;
import java.util.ArrayList;
import java.util.Arrays;
import java.util.List;

/** The document once more, by search and trial in place of reckoning, with the machine's own rows and refusals. */
final class SlowModel {
    static final int BAD = -1, NOT = -2, FULL = -3, NONE = -4, NULL = -11, CAST = -12, INDEX = -13, SIZE = -14;

    private static final Class<?>[] LANES = {byte.class, short.class, int.class, long.class};

    private record Wheel(int kind, int width, boolean check) {
    }

    private record Moment(int[][] rests, int draw) {
    }

    private static final class State {
        List<Wheel> wheels = new ArrayList<>();
        int[][] rests = new int[4][0];
        int draw = 1;
        List<Moment> past = new ArrayList<>();

        State twin() {
            State twin = new State();
            twin.wheels = new ArrayList<>(wheels);
            twin.rests = deep(rests);
            twin.draw = draw;
            twin.past = new ArrayList<>(past);
            return twin;
        }
    }

    private static int[][] deep(int[][] rows) {
        int[][] twin = new int[rows.length][];
        for (int k = 0; k < rows.length; k++) {
            twin[k] = rows[k].clone();
        }
        return twin;
    }

    private State s = new State();
    private State image = null;
    private String tape = "";
    private final Object[] sheets = new Object[4];

    private int wheels() {
        return s.wheels.size();
    }

    private int width(int wheel) {
        return s.wheels.get(wheel).width();
    }

    private boolean register(int register) {
        return register >= 0 && register <= 3;
    }

    private boolean wheel(int wheel) {
        return wheel >= 0 && wheel < wheels();
    }

    private int range() {
        int range = 1;
        for (Wheel wheel : s.wheels) {
            range *= wheel.check() ? 1 : wheel.width();
        }
        return range;
    }

    private int span() {
        int span = 1;
        for (Wheel wheel : s.wheels) {
            span *= wheel.width();
        }
        return span;
    }

    /** By sieving: from one number with the first rests to the next, until the next rest is right too. */
    private int valueOf(int[] rests) {
        int number = 0;
        int step = 1;
        for (int wheel = 0; wheel < wheels(); wheel++) {
            while (number % width(wheel) != rests[wheel]) {
                number += step;
            }
            step *= width(wheel);
        }
        return number;
    }

    private boolean legal(int[] rests) {
        return valueOf(rests) < range();
    }

    private int legals() {
        int set = 0;
        for (int register = 0; register < 4; register++) {
            if (legal(s.rests[register])) {
                set += 1 << register;
            }
        }
        return set;
    }

    static int plus(int kind, int width, int a, int b) {
        switch (kind) {
            case 1: {
                int plain = plus(0, width, a, b);
                return a + b >= width ? (plain == 0 ? 0 : plain - 1) : plain;
            }
            case 2:
                return b == 1 ? a : plus(0, width, a, b);
            case 3:
                return a == b ? 0 : plus(1, width, a, b);
            case 4:
                return 2 * b > width ? a : plus(2, width, a, b);
            default: {
                int both = a + b;
                while (both >= width) {
                    both -= width;
                }
                return both;
            }
        }
    }

    private int plus(int wheel, int a, int b) {
        return plus(s.wheels.get(wheel).kind(), width(wheel), a, b);
    }

    private int multiply(int wheel, int a, int b) {
        int shown = 0;
        for (int k = 0; k < b; k++) {
            shown = plus(wheel, shown, a);
        }
        return shown;
    }

    private int[] sumOf(int[] a, int[] b) {
        int[] shown = new int[wheels()];
        for (int wheel = 0; wheel < wheels(); wheel++) {
            shown[wheel] = plus(wheel, a[wheel], b[wheel]);
        }
        return shown;
    }

    private void keep() {
        s.past.add(new Moment(deep(s.rests), s.draw));
        if (s.past.size() > 8) {
            s.past.remove(0);
        }
    }

    int type(int letter) {
        if (letter < 32 || letter > 126) {
            return BAD;
        }
        if (tape.length() == 40) {
            return FULL;
        }
        tape += (char) letter;
        return tape.length();
    }

    /** One letter after another through states, unlike the reader by groups of the class itself. */
    int set() {
        String text = tape;
        tape = "";
        List<Wheel> told = new ArrayList<>();
        final int wantKind = 0, wantDigit = 1, oneDigit = 2, behindNumber = 3;
        int state = wantKind;
        int kind = 0;
        int number = 0;
        int first = 0;
        boolean checks = false;
        int group = 0;
        for (int k = 0; k <= text.length(); k++) {
            boolean end = k == text.length();
            char c = end ? '\0' : text.charAt(k);
            if (state == oneDigit) {
                boolean second = Character.isDigit(c);
                number = second ? number * 10 + (c - '0') : number;
                if (!goodWidth(number, told)) {
                    return -20 - first;
                }
                told.add(new Wheel(kind, number, checks));
                group++;
                state = behindNumber;
                if (second) {
                    continue;
                }
            }
            if (c == ' ') {
                continue;
            }
            if (state == wantKind && !end && "plswz".indexOf(c) >= 0) {
                kind = "plswz".indexOf(c);
                state = wantDigit;
            } else if (state == wantDigit && Character.isDigit(c)) {
                number = c - '0';
                first = k;
                state = oneDigit;
            } else if (state == behindNumber && c == ',' && group < (checks ? 2 : 4)) {
                state = wantKind;
            } else if (state == behindNumber && c == ';' && !checks) {
                checks = true;
                group = 0;
                state = wantKind;
            } else if (!(state == behindNumber && end)) {
                return -20 - k;
            }
        }
        s.wheels = told;
        s.rests = new int[4][told.size()];
        s.past.clear();
        return told.size();
    }

    private static boolean goodWidth(int number, List<Wheel> ahead) {
        boolean good = number >= 2 && number <= 19;
        for (Wheel wheel : ahead) {
            good &= BigInteger.valueOf(wheel.width()).gcd(BigInteger.valueOf(number)).intValue() == 1;
        }
        return good;
    }

    int of(int wheel, int what) {
        if (!wheel(wheel) || what < 0 || what > 3) {
            return BAD;
        }
        Wheel one = s.wheels.get(wheel);
        if (what < 3) {
            return what == 0 ? one.kind() : what == 1 ? one.width() : one.check() ? 1 : 0;
        }
        int wrong = 0;
        for (int a = 0; a < one.width(); a++) {
            for (int b = 0; b < one.width(); b++) {
                wrong += plus(wheel, a, b) == plus(0, one.width(), a, b) ? 0 : 1;
            }
        }
        return wrong;
    }

    int rest(int register, int wheel) {
        return register(register) && wheel(wheel) ? s.rests[register][wheel] : BAD;
    }

    int at(int register, int what) {
        if (!register(register) || what < 0 || what > 1) {
            return BAD;
        }
        return what == 0 ? valueOf(s.rests[register]) : legal(s.rests[register]) ? 1 : 0;
    }

    int shows(int wheel, int a, int b, int what) {
        if (!wheel(wheel) || what < 0 || what > 1 || a < 0 || a >= width(wheel) || b < 0 || b >= width(wheel)) {
            return BAD;
        }
        return what == 0 ? plus(wheel, a, b) : multiply(wheel, a, b);
    }

    int count(int what) {
        switch (what) {
            case 0: return wheels();
            case 1: return (int) s.wheels.stream().filter(wheel -> !wheel.check()).count();
            case 2: return range();
            case 3: return span();
            case 4: return legals();
            case 5: {
                int set = 0;
                for (int wheel = 0; wheel < wheels(); wheel++) {
                    set += s.wheels.get(wheel).kind() == 0 ? 1 << wheel : 0;
                }
                return set;
            }
            case 6: return s.past.size();
            default: return BAD;
        }
    }

    int lay(int register, int number) {
        if (!register(register) || number < 0 || number >= span()) {
            return BAD;
        }
        int had = valueOf(s.rests[register]);
        keep();
        s.rests[register] = restsOf(number);
        return had;
    }

    private int[] restsOf(int number) {
        int[] rests = new int[wheels()];
        for (int wheel = 0; wheel < wheels(); wheel++) {
            rests[wheel] = number % width(wheel);
        }
        return rests;
    }

    int add(int register, int other) {
        if (!register(register) || !register(other)) {
            return BAD;
        }
        keep();
        s.rests[register] = sumOf(s.rests[register], s.rests[other]);
        return valueOf(s.rests[register]);
    }

    int times(int register, int other) {
        if (!register(register) || !register(other)) {
            return BAD;
        }
        keep();
        int[] by = s.rests[other].clone();
        for (int wheel = 0; wheel < wheels(); wheel++) {
            s.rests[register][wheel] = multiply(wheel, s.rests[register][wheel], by[wheel]);
        }
        return valueOf(s.rests[register]);
    }

    int negate(int register) {
        if (!register(register)) {
            return BAD;
        }
        keep();
        for (int wheel = 0; wheel < wheels(); wheel++) {
            s.rests[register][wheel] = (width(wheel) - s.rests[register][wheel]) % width(wheel);
        }
        return valueOf(s.rests[register]);
    }

    int slip(int register, int wheel, int rest) {
        if (!register(register) || !wheel(wheel) || rest < 0 || rest >= width(wheel)) {
            return BAD;
        }
        int was = s.rests[register][wheel];
        if (was == rest) {
            return NOT;
        }
        keep();
        s.rests[register][wheel] = rest;
        return was;
    }

    int take(int register, int other) {
        if (!register(register) || !register(other) || register == other) {
            return BAD;
        }
        keep();
        s.rests[register] = s.rests[other].clone();
        return valueOf(s.rests[register]);
    }

    int drift(int n) {
        if (n < 1 || n > 40) {
            return BAD;
        }
        for (int turn = 0; turn < n; turn++) {
            keep();
            BigInteger next = BigInteger.valueOf(s.draw).multiply(BigInteger.valueOf(1103515245)).add(BigInteger.valueOf(12345));
            s.draw = next.mod(BigInteger.ONE.shiftLeft(31)).intValueExact();
            int first = (s.draw >> 16) & 3;
            int second = (s.draw >> 7) & 3;
            s.rests[first] = sumOf(s.rests[first], s.rests[second]);
            if ((s.draw >> 11) % 5 == 0 && wheels() > 0) {
                int wheel = (s.draw >> 8) % wheels();
                int more = s.rests[first][wheel] + 1;
                s.rests[first][wheel] = more == width(wheel) ? 0 : more;
            }
        }
        return legals();
    }

    int undo() {
        if (s.past.isEmpty()) {
            return NONE;
        }
        Moment ahead = s.past.remove(s.past.size() - 1);
        s.rests = deep(ahead.rests());
        s.draw = ahead.draw();
        return s.past.size();
    }

    int seed(int v) {
        if (v < 0) {
            return BAD;
        }
        int was = s.draw;
        s.draw = v;
        return was;
    }

    int figure(int register, int k) {
        if (!register(register) || !wheel(k)) {
            return BAD;
        }
        int value = valueOf(s.rests[register]);
        int place = 1;
        for (int wheel = 0; wheel < k; wheel++) {
            place *= width(wheel);
        }
        return value / place % width(k);
    }

    int order(int register, int other) {
        if (!register(register) || !register(other)) {
            return BAD;
        }
        int one = valueOf(s.rests[register]);
        int two = valueOf(s.rests[other]);
        return one < two ? 0 : one == two ? 1 : 2;
    }

    int blame(int register) {
        if (!register(register)) {
            return BAD;
        }
        int set = 0;
        if (!legal(s.rests[register])) {
            for (int wheel = 0; wheel < wheels(); wheel++) {
                for (int rest = 0; rest < width(wheel); rest++) {
                    int[] other = s.rests[register].clone();
                    other[wheel] = rest;
                    set |= legal(other) ? 1 << wheel : 0;
                }
            }
        }
        return set;
    }

    private int unlike(int number, int[] rests) {
        int unlike = 0;
        for (int wheel = 0; wheel < wheels(); wheel++) {
            unlike += number % width(wheel) == rests[wheel] ? 0 : 1;
        }
        return unlike;
    }

    int nearest(int register, int what) {
        if (!register(register) || what < 0 || what > 1) {
            return BAD;
        }
        int best = 0;
        int fewest = unlike(0, s.rests[register]);
        for (int number = 1; number < range(); number++) {
            int unlike = unlike(number, s.rests[register]);
            if (unlike < fewest) {
                fewest = unlike;
                best = number;
            }
        }
        return what == 0 ? best : fewest;
    }

    /** By all pairs where they are few; else by what two numbers are apart, which is all that matters. */
    int apart() {
        int fewest = 99;
        for (int less = 0; less < (range() <= 300 ? range() : 1); less++) {
            int[] rests = restsOf(less);
            for (int number = less + 1; number < range(); number++) {
                fewest = Math.min(fewest, unlike(number, rests));
            }
        }
        return fewest == 99 ? NONE : fewest;
    }

    int sum(int register, int other, int n, int wheel) {
        if (!register(register) || !register(other) || n < 0 || n > 1000 || !wheel(wheel)) {
            return BAD;
        }
        int[] shown = s.rests[register];
        for (int k = 0; k < n; k++) {
            shown = sumOf(shown, s.rests[other]);
        }
        return shown[wheel];
    }

    int again(int register, int other) {
        if (!register(register) || !register(other)) {
            return BAD;
        }
        int[] shown = s.rests[register];
        for (int n = 1; n <= 2000; n++) {
            shown = sumOf(shown, s.rests[other]);
            if (Arrays.equals(shown, s.rests[register])) {
                return n;
            }
        }
        return NONE;
    }

    int should(int register, int other) {
        if (!register(register) || !register(other)) {
            return BAD;
        }
        int set = 0;
        for (int wheel = 0; wheel < wheels(); wheel++) {
            int a = s.rests[register][wheel];
            int b = s.rests[other][wheel];
            set |= plus(wheel, a, b) == (a + b) % width(wheel) ? 0 : 1 << wheel;
        }
        return set;
    }

    int unseen(int register, int c, int what) {
        if (!register(register) || c < 0 || c > 10 || what < 0 || what > 1) {
            return BAD;
        }
        BigInteger above = unseenFrom(0, s.rests[register].clone(), c, false);
        BigInteger below = BigInteger.TEN.pow(wheels());
        BigInteger part = above.gcd(below);
        return (what == 0 ? above : below).divide(part).intValueExact();
    }

    private BigInteger unseenFrom(int wheel, int[] rests, int c, boolean some) {
        if (wheel == wheels()) {
            return some && legal(rests) ? BigInteger.ONE : BigInteger.ZERO;
        }
        int was = rests[wheel];
        BigInteger still = unseenFrom(wheel + 1, rests, c, some).multiply(BigInteger.valueOf(10 - c));
        rests[wheel] = (was + 1) % width(wheel);
        BigInteger turned = unseenFrom(wheel + 1, rests, c, true).multiply(BigInteger.valueOf(c));
        rests[wheel] = was;
        return still.add(turned);
    }

    int image() {
        image = s.twin();
        return 1;
    }

    int restore() {
        if (image == null) {
            return NONE;
        }
        s = image.twin();
        return 1;
    }

    private static boolean badSheet(int sheet, int lane) {
        return sheet < 0 || sheet > 3 || lane < 0 || lane > 3;
    }

    /** What the machine finds when n items from i on of a row of a lane are read; 0 if nothing. */
    private int found(int sheet, int lane, int i, int n) {
        try {
            Object row = sheets[sheet];
            row.hashCode();
            Class.forName(Array.newInstance(LANES[lane], 0).getClass().getName()).cast(row);
            System.arraycopy(row, i, Array.newInstance(LANES[lane], n), 0, n);
            return 0;
        } catch (NullPointerException e) {
            return NULL;
        } catch (ClassCastException e) {
            return CAST;
        } catch (IndexOutOfBoundsException e) {
            return INDEX;
        } catch (ClassNotFoundException e) {
            throw new IllegalStateException(e);
        }
    }

    int rubbed(int sheet, int lane, int i, int what) {
        if (badSheet(sheet, lane) || what < 0 || what > 1) {
            return BAD;
        }
        int found = found(sheet, lane, i, wheels());
        if (found != 0) {
            return found;
        }
        int many = 0;
        int least = NONE;
        for (int number = range() - 1; number >= 0; number--) {
            boolean fits = true;
            for (int wheel = 0; wheel < wheels(); wheel++) {
                long told = Array.getLong(sheets[sheet], i + wheel);
                fits &= told == -1 || told == number % width(wheel);
            }
            many += fits ? 1 : 0;
            least = fits ? number : least;
        }
        return what == 0 ? many : least;
    }

    int seen(int wheel, int sheet, int lane, int i, int n) {
        if (!wheel(wheel) || badSheet(sheet, lane) || n < 1 || n > 8) {
            return BAD;
        }
        int found = found(sheet, lane, i, 3 * n);
        if (found != 0) {
            return found;
        }
        int kinds = 31;
        for (int k = 0; k < n; k++) {
            kinds &= kindsOf(width(wheel), sheets[sheet], i + 3 * k);
        }
        return kinds;
    }

    /** By trying all sums that there are. */
    private static int kindsOf(int width, Object row, int i) {
        int kinds = 0;
        for (int kind = 0; kind < 5; kind++) {
            for (int a = 0; a < width; a++) {
                for (int b = 0; b < width; b++) {
                    boolean so = Array.getLong(row, i) == a && Array.getLong(row, i + 1) == b
                            && Array.getLong(row, i + 2) == plus(kind, width, a, b);
                    kinds |= so ? 1 << kind : 0;
                }
            }
        }
        return kinds;
    }

    private static void store(Object row, int lane, int i, long v) {
        switch (lane) {
            case 0 -> ((byte[]) row)[i] = (byte) v;
            case 1 -> ((short[]) row)[i] = (short) v;
            case 2 -> ((int[]) row)[i] = (int) v;
            default -> ((long[]) row)[i] = v;
        }
    }

    int film(int register, int sheet, int lane, int i) {
        if (!register(register) || badSheet(sheet, lane)) {
            return BAD;
        }
        int found = found(sheet, lane, i, wheels());
        if (found != 0) {
            return found;
        }
        for (int wheel = 0; wheel < wheels(); wheel++) {
            store(sheets[sheet], lane, i + wheel, s.rests[register][wheel]);
        }
        return wheels();
    }

    int sheet(int sheet, int lane, int n) {
        if (badSheet(sheet, lane) || n > 24) {
            return BAD;
        }
        try {
            sheets[sheet] = Array.newInstance(LANES[lane], n);
            return n;
        } catch (NegativeArraySizeException e) {
            return SIZE;
        }
    }

    int drop(int sheet) {
        if (badSheet(sheet, 0)) {
            return BAD;
        }
        if (sheets[sheet] == null) {
            return NULL;
        }
        int had = Array.getLength(sheets[sheet]);
        sheets[sheet] = null;
        return had;
    }

    int item(int sheet, int lane, int i, long v) {
        if (badSheet(sheet, lane)) {
            return BAD;
        }
        try {
            store(sheets[sheet], lane, i, v);
            return 1;
        } catch (NullPointerException e) {
            return NULL;
        } catch (ClassCastException e) {
            return CAST;
        } catch (IndexOutOfBoundsException e) {
            return INDEX;
        }
    }

    int copy(int from, int i, int to, int j, int n) {
        if (badSheet(from, 0) || badSheet(to, 0)) {
            return BAD;
        }
        try {
            System.arraycopy(sheets[from], i, sheets[to], j, n);
            return n;
        } catch (NullPointerException e) {
            return NULL;
        } catch (ArrayStoreException e) {
            return CAST;
        } catch (IndexOutOfBoundsException e) {
            return INDEX;
        }
    }
}
