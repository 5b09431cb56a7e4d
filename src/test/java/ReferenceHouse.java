import java.math.BigInteger;
import java.util.ArrayDeque;
import java.util.ArrayList;
import java.util.Arrays;
import java.util.Deque;
import java.util.HashMap;
import java.util.List;
import java.util.Map;

/**
 * The document once more, in other ways than Versorhall goes: no table of SIGNS, doubled products by
 * halves, blades by sorting, maps by all orders. It is slow and makes objects freely.
 */
final class ReferenceHouse {
    private int p = 7;
    private final List<Ground> grounds = new ArrayList<>();
    private final List<Number> numbers = new ArrayList<>();
    private int knocks = 0;

    private static final class Ground {
        int kind;
        int index;
        final List<Integer> dials = new ArrayList<>();
        final List<int[]> mirrors = new ArrayList<>();
        final Map<String, Integer> known = new HashMap<>();

        int units() {
            return 1 << dials.size();
        }
    }

    private static final class Number {
        Ground ground;
        int[] cells;
    }

    // ---- the ground

    private int mod(int value) {
        return BigInteger.valueOf(value).mod(BigInteger.valueOf(p)).intValue();
    }

    private int over(int value) {
        return BigInteger.valueOf(value).modInverse(BigInteger.valueOf(p)).intValue();
    }

    private int[] plus(int[] one, int[] other, int times) {
        int[] result = new int[one.length];
        for (int i = 0; i < one.length; i++) {
            result[i] = mod(one[i] + times * other[i]);
        }
        return result;
    }

    private int[] times(int[] one, int number) {
        return plus(new int[one.length], one, number);
    }

    private static boolean isZero(int[] cells) {
        return Arrays.stream(cells).allMatch(n -> n == 0);
    }

    private static int size(int[] cells) {
        return (int) Arrays.stream(cells).filter(n -> n != 0).count();
    }

    private static boolean isPlain(int[] cells) {
        return isZero(Arrays.copyOfRange(cells, 1, cells.length));
    }

    private static int[] unit(Ground g, int unit) {
        int[] cells = new int[g.units()];
        cells[unit] = 1;
        return cells;
    }

    private int[] conj(Ground g, int[] x) {
        if (g.kind == 0) {
            return halvesConj(x);
        }
        int[] result = x.clone();
        for (int i = 0; i < x.length; i++) {
            int r = generators(i).size();
            // Reversing r letters takes r(r-1)/2 swaps, and each letter changes its sign once.
            if ((r * (r - 1) / 2 + r) % 2 != 0) {
                result[i] = mod(-x[i]);
            }
        }
        return result;
    }

    private int[] halvesConj(int[] x) {
        if (x.length == 1) {
            return x.clone();
        }
        int h = x.length / 2;
        return join(halvesConj(Arrays.copyOf(x, h)), times(Arrays.copyOfRange(x, h, 2 * h), -1));
    }

    private static int[] join(int[] one, int[] other) {
        int[] result = Arrays.copyOf(one, one.length + other.length);
        System.arraycopy(other, 0, result, one.length, other.length);
        return result;
    }

    private int[] mul(Ground g, int[] x, int[] y) {
        return g.kind == 0 ? halvesMul(g, x, y) : bladesMul(g, x, y);
    }

    private int[] halvesMul(Ground g, int[] x, int[] y) {
        if (isZero(x) || isZero(y)) {
            return new int[x.length];
        }
        if (x.length == 1) {
            return new int[] {mod(x[0] * y[0])};
        }
        int h = x.length / 2;
        int dial = g.dials.get(Integer.numberOfTrailingZeros(h));
        int[] a = Arrays.copyOf(x, h);
        int[] b = Arrays.copyOfRange(x, h, 2 * h);
        int[] c = Arrays.copyOf(y, h);
        int[] d = Arrays.copyOfRange(y, h, 2 * h);
        int[] left = plus(halvesMul(g, a, c), halvesMul(g, halvesConj(d), b), dial);
        int[] right = plus(halvesMul(g, d, a), halvesMul(g, b, halvesConj(c)), 1);
        return join(left, right);
    }

    private static List<Integer> generators(int unit) {
        List<Integer> result = new ArrayList<>();
        for (int i = 0; i < 4; i++) {
            if ((unit >> i & 1) == 1) {
                result.add(i);
            }
        }
        return result;
    }

    private int[] bladesMul(Ground g, int[] x, int[] y) {
        int[] result = new int[x.length];
        for (int i = 0; i < x.length; i++) {
            for (int j = 0; j < y.length; j++) {
                if (x[i] != 0 && y[j] != 0) {
                    List<Integer> letters = generators(i);
                    letters.addAll(generators(j));
                    int factor = sortedFactor(g, letters);
                    int unit = letters.stream().mapToInt(n -> 1 << n).sum();
                    result[unit] = mod(result[unit] + x[i] * y[j] * factor);
                }
            }
        }
        return result;
    }

    /** Sorts the letters by swaps of neighbours, each a -1, and puts the DIAL for each equal pair. */
    private int sortedFactor(Ground g, List<Integer> letters) {
        int factor = 1;
        int at = 0;
        while (at + 1 < letters.size()) {
            int one = letters.get(at);
            int other = letters.get(at + 1);
            if (one > other) {
                letters.set(at, other);
                letters.set(at + 1, one);
                factor = mod(-factor);
                at = 0;
            } else if (one == other) {
                letters.remove(at);
                letters.remove(at);
                factor = mod(factor * g.dials.get(one));
                at = 0;
            } else {
                at++;
            }
        }
        return factor;
    }

    private int[] pow(Ground g, int[] x, int n) {
        return n == 0 ? unit(g, 0) : mul(g, pow(g, x, n - 1), x);
    }

    private int firstPower(Ground g, int[] x, int most, int[] wanted) {
        int[] power = unit(g, 0);
        for (int n = 1; n <= most; n++) {
            power = mul(g, power, x);
            if (Arrays.equals(power, wanted)) {
                return n;
            }
        }
        return -1;
    }

    /** The numbers of UNITS by which column n is made up of the columns ahead, or null if there is no such n. */
    private int[] firstDependence(List<int[]> columns, int[] rankToTell) {
        Map<Integer, int[][]> basis = new HashMap<>();
        int[] found = null;
        for (int n = 0; n < columns.size(); n++) {
            int[] rest = columns.get(n).clone();
            int[] made = new int[columns.size()];
            made[n] = 1;
            boolean independent = false;
            for (int i = 0; i < rest.length && !independent; i++) {
                if (rest[i] != 0) {
                    int[][] known = basis.get(i);
                    if (known == null) {
                        basis.put(i, new int[][] {rest, made});
                        independent = true;
                    } else {
                        int factor = mod(rest[i] * over(known[0][i]));
                        rest = plus(rest, known[0], -factor);
                        made = plus(made, known[1], -factor);
                    }
                }
            }
            if (!independent && found == null) {
                found = made;
            }
        }
        rankToTell[0] = basis.size();
        return found;
    }

    private List<int[]> columns(Number x, boolean fromLeft) {
        List<int[]> result = new ArrayList<>();
        for (int j = 0; j < x.cells.length; j++) {
            int[] y = unit(x.ground, j);
            result.add(fromLeft ? mul(x.ground, x.cells, y) : mul(x.ground, y, x.cells));
        }
        return result;
    }

    private boolean isVector(Number x) {
        boolean some = false;
        for (int i = 0; i < x.cells.length; i++) {
            if (x.cells[i] != 0) {
                some = true;
                if (generators(i).size() != 1) {
                    return false;
                }
            }
        }
        return some && x.ground.kind == 1;
    }

    private int square(Number x) {
        return isVector(x) ? mul(x.ground, x.cells, x.cells)[0] : -1;
    }

    private int[] mirrored(Ground g, int[] v, int[] x) {
        int square = mul(g, v, v)[0];
        return times(mul(g, mul(g, v, x), v), -over(square));
    }

    // ---- the arguments

    private Ground ground(int n) {
        if (n < 0 || n >= grounds.size()) {
            throw new IndexOutOfBoundsException();
        }
        return grounds.get(n);
    }

    private Number number(int n) {
        if (n < 0 || n >= numbers.size()) {
            throw new IndexOutOfBoundsException();
        }
        return numbers.get(n);
    }

    private static void unitOf(Ground g, int unit) {
        if (unit < 0 || unit >= g.units()) {
            throw new IndexOutOfBoundsException();
        }
    }

    private static void argument(boolean holds) {
        if (!holds) {
            throw new IllegalArgumentException();
        }
    }

    private static void state(boolean holds) {
        if (!holds) {
            throw new IllegalStateException();
        }
    }

    private static int keep(Number into, int[] cells) {
        into.cells = cells.clone();
        return size(cells);
    }

    // ---- the face

    int prime(int prime) {
        argument(prime == 3 || prime == 5 || prime == 7);
        state(grounds.isEmpty());
        int before = p;
        p = prime;
        return before;
    }

    int algebra(int kind) {
        argument(kind == 0 || kind == 1);
        state(grounds.size() < 4);
        Ground g = new Ground();
        g.kind = kind;
        g.index = grounds.size();
        grounds.add(g);
        return g.index;
    }

    int dial(int algebra, int dial) {
        Ground g = ground(algebra);
        argument(dial > 0 && dial < p);
        state(g.dials.size() < 4 && numbers.stream().noneMatch(x -> x.ground == g));
        g.dials.add(dial);
        g.known.clear();
        return g.units();
    }

    int element(int algebra) {
        Ground g = ground(algebra);
        state(numbers.size() < 10);
        Number x = new Number();
        x.ground = g;
        x.cells = new int[g.units()];
        numbers.add(x);
        return numbers.size() - 1;
    }

    int set(int element, int unit, int number) {
        Number x = number(element);
        unitOf(x.ground, unit);
        argument(number >= 0 && number < p);
        int before = x.cells[unit];
        x.cells[unit] = number;
        return before;
    }

    int sum(int into, int one, int other) {
        Number r = number(into);
        Number x = number(one);
        Number y = number(other);
        argument(r.ground == x.ground && x.ground == y.ground);
        return keep(r, plus(x.cells, y.cells, 1));
    }

    int product(int into, int one, int other) {
        Number r = number(into);
        Number x = number(one);
        Number y = number(other);
        argument(r.ground == x.ground && x.ground == y.ground);
        return keep(r, mul(x.ground, x.cells, y.cells));
    }

    int scale(int into, int one, int number) {
        Number r = number(into);
        Number x = number(one);
        argument(r.ground == x.ground && number >= 0 && number < p);
        return keep(r, times(x.cells, number));
    }

    int conjugate(int into, int one) {
        Number r = number(into);
        Number x = number(one);
        argument(r.ground == x.ground);
        return keep(r, conj(x.ground, x.cells));
    }

    int power(int into, int one, int power) {
        Number r = number(into);
        Number x = number(one);
        argument(r.ground == x.ground && power >= 0 && power <= 60);
        return keep(r, pow(x.ground, x.cells, power));
    }

    int invert(int into, int one) {
        Number r = number(into);
        Number x = number(one);
        argument(r.ground == x.ground);
        int[] conjugate = conj(x.ground, x.cells);
        int[] product = mul(x.ground, x.cells, conjugate);
        state(isPlain(product) && product[0] != 0);
        return keep(r, times(conjugate, over(product[0])));
    }

    int series(int into, int one) {
        Number r = number(into);
        Number x = number(one);
        argument(r.ground == x.ground);
        int m = firstPower(x.ground, x.cells, p, new int[x.cells.length]);
        state(m > 0);
        int[] sum = new int[x.cells.length];
        int factorial = 1;
        for (int n = 0; n < m; n++) {
            factorial = n == 0 ? 1 : factorial * n;
            sum = plus(sum, pow(x.ground, x.cells, n), over(factorial));
        }
        return keep(r, sum);
    }

    int killer(int into, int one) {
        Number r = number(into);
        Number x = number(one);
        argument(r.ground == x.ground);
        int[] killer = firstDependence(columns(x, true), new int[1]);
        state(killer != null);
        keep(r, killer);
        int greatest = 0;
        for (int i = 0; i < killer.length; i++) {
            greatest = killer[i] != 0 ? i : greatest;
        }
        return greatest;
    }

    int hang(int element) {
        Number v = number(element);
        state(square(v) > 0 && v.ground.mirrors.size() < 6);
        v.ground.mirrors.add(v.cells.clone());
        return v.ground.mirrors.size();
    }

    int clear(int algebra) {
        Ground g = ground(algebra);
        int before = g.mirrors.size();
        knocks += g.mirrors.isEmpty() ? 1 : 0;
        g.mirrors.clear();
        return before;
    }

    int mirror(int into, int vector, int one) {
        Number r = number(into);
        Number v = number(vector);
        Number x = number(one);
        argument(r.ground == x.ground && x.ground == v.ground);
        state(square(v) > 0);
        return keep(r, mirrored(x.ground, v.cells, x.cells));
    }

    int turn(int into, int one) {
        Number r = number(into);
        Number x = number(one);
        argument(r.ground == x.ground);
        state(x.ground.kind == 1);
        int[] turned = x.cells;
        for (int[] mirror : x.ground.mirrors) {
            turned = mirrored(x.ground, mirror, turned);
        }
        return keep(r, turned);
    }

    int versor(int into) {
        Number r = number(into);
        Ground g = r.ground;
        state(g.kind == 1);
        int[] versor = unit(g, 0);
        for (int i = g.mirrors.size() - 1; i >= 0; i--) {
            versor = mul(g, versor, g.mirrors.get(i));
        }
        return keep(r, versor);
    }

    int run(int into, int word) {
        Number r = number(into);
        argument(word >= 0);
        Ground g = r.ground;
        Deque<int[]> pile = new ArrayDeque<>();
        for (char sign : new StringBuilder(Integer.toString(word)).reverse().toString().toCharArray()) {
            int digit = sign - '0';
            if (digit < 6) {
                argument(digit < numbers.size() && numbers.get(digit).ground == g);
                pile.push(numbers.get(digit).cells);
            } else if (digit == 9) {
                argument(!pile.isEmpty());
                pile.push(conj(g, pile.pop()));
            } else {
                argument(pile.size() > 1);
                int[] top = pile.pop();
                int[] lower = pile.pop();
                pile.push(digit == 7 ? mul(g, lower, top) : plus(lower, top, digit == 6 ? 1 : -1));
            }
        }
        argument(pile.size() == 1);
        return keep(r, pile.pop());
    }

    int at(int element, int unit) {
        Number x = number(element);
        unitOf(x.ground, unit);
        return x.cells[unit];
    }

    int ofElement(int element, int what) {
        Number x = number(element);
        int[] cells = x.cells;
        int[] rank = new int[1];
        switch (what) {
            case 0: return x.ground.index;
            case 1: return size(cells);
            case 2: return mul(x.ground, cells, conj(x.ground, cells))[0];
            case 3: return isPlain(cells) ? 1 : 0;
            case 4: return firstPower(x.ground, cells, 60, unit(x.ground, 0));
            case 5: return firstPower(x.ground, cells, p, new int[cells.length]);
            case 6: return Arrays.equals(mul(x.ground, cells, cells), cells) ? 1 : 0;
            case 7: return square(x);
            case 8: firstDependence(columns(x, true), rank); return rank[0];
            case 9: firstDependence(columns(x, false), rank); return rank[0];
            default: throw new IllegalArgumentException();
        }
    }

    String text(int element) {
        int[] cells = number(element).cells;
        List<String> parts = new ArrayList<>();
        for (int i = 0; i < cells.length; i++) {
            if (cells[i] != 0) {
                parts.add(cells[i] + "e" + i);
            }
        }
        return parts.isEmpty() ? "0" : String.join("+", parts);
    }

    int ofAlgebra(int algebra, int what) {
        Ground g = ground(algebra);
        switch (what) {
            case 0: return g.kind;
            case 1: return g.dials.size();
            case 2: return g.units();
            case 3: return (int) numbers.stream().filter(x -> x.ground == g).count();
            case 4: return g.known.computeIfAbsent("centre", k -> centre(g));
            case 5: return g.mirrors.size();
            default: throw new IllegalArgumentException();
        }
    }

    private int centre(Ground g) {
        int set = 0;
        for (int i = 0; i < g.units(); i++) {
            boolean central = true;
            for (int j = 0; j < g.units(); j++) {
                central &= Arrays.equals(mul(g, unit(g, i), unit(g, j)), mul(g, unit(g, j), unit(g, i)));
            }
            set += central ? 1 << i : 0;
        }
        return set;
    }

    int sign(int algebra, int one, int other) {
        Ground g = ground(algebra);
        unitOf(g, one);
        unitOf(g, other);
        return mul(g, unit(g, one), unit(g, other))[one ^ other];
    }

    int breaks(int algebra, int law) {
        Ground g = ground(algebra);
        if (law < 0 || law > 3) {
            throw new IndexOutOfBoundsException();
        }
        return g.known.computeIfAbsent("law" + law, k -> firstBreak(g, law));
    }

    private int firstBreak(Ground g, int law) {
        int n = g.units();
        for (int i = 0; i < n; i++) {
            for (int j = 0; j < n; j++) {
                if (law == 0) {
                    if (!Arrays.equals(mul(g, unit(g, i), unit(g, j)), mul(g, unit(g, j), unit(g, i)))) {
                        return 256 * i + 16 * j;
                    }
                    continue;
                }
                for (int k = 0; k < n; k++) {
                    int[] gap = gap(g, i, j, k);
                    boolean holds = law == 1 ? isZero(gap)
                        : law == 2 ? isZero(plus(gap, gap(g, j, i, k), 1)) && isZero(plus(gap, gap(g, i, k, j), 1))
                        : isZero(plus(gap, gap(g, k, j, i), 1));
                    if (!holds) {
                        return 256 * i + 16 * j + k;
                    }
                }
            }
        }
        return -1;
    }

    private int[] gap(Ground g, int i, int j, int k) {
        int[] x = unit(g, i);
        int[] y = unit(g, j);
        int[] z = unit(g, k);
        return plus(mul(g, mul(g, x, y), z), mul(g, x, mul(g, y, z)), -1);
    }

    double meanSize() {
        return numbers.stream().mapToInt(x -> size(x.cells)).average().orElse(0.0);
    }

    private double leanOf(Number x) {
        double quarter = 0;
        for (int i = 0; i < x.cells.length; i++) {
            int n = x.cells[i];
            quarter += 0.25 * ((n > Math.floor(p / 2.0) ? n - p : n) * (i + 1));
        }
        double lean = Math.IEEEremainder(quarter, 8);
        // IEEEremainder goes to the nearest; the sign wanted is that of the quarter.
        if (quarter > 0 && lean < 0) {
            lean += 8;
        }
        if (quarter < 0 && lean > 0) {
            lean -= 8;
        }
        lean = isPlain(x.cells) ? -lean : lean;
        return lean == 0 ? 0.0 : lean;
    }

    double lean(int element) {
        return leanOf(number(element));
    }

    double poise() {
        double mean = numbers.isEmpty() ? 0.0 : numbers.stream().mapToDouble(this::leanOf).sum() / numbers.size();
        double whole = Math.rint(mean);
        return whole == 0 ? 0.0 : whole;
    }

    int many(int what) {
        switch (what) {
            case 0: return p;
            case 1: return grounds.size();
            case 2: return numbers.size();
            case 3: return grounds.stream().mapToInt(Ground::units).sum();
            case 4: return (int) numbers.stream().filter(x -> isPlain(x.cells)).count();
            case 5: return (int) numbers.stream()
                .filter(x -> mul(x.ground, x.cells, conj(x.ground, x.cells))[0] == 0).count();
            case 6: return knocks;
            case 7: return (int) numbers.stream().mapToDouble(this::leanOf).sum();
            default: throw new IllegalArgumentException();
        }
    }

    int apart(int one, int other) {
        Number x = number(one);
        Number y = number(other);
        argument(x.ground == y.ground);
        return size(plus(mul(x.ground, x.cells, y.cells), mul(x.ground, y.cells, x.cells), -1));
    }

    int row(int algebra, int number) {
        Ground g = ground(algebra);
        argument(number >= 0 && number < p);
        return g.known.computeIfAbsent("row" + number, k -> smallestRow(g, number));
    }

    private int smallestRow(Ground g, int number) {
        int k = g.dials.size();
        for (int row = 1; row < Math.pow(p, k); row++) {
            String digits = Integer.toString(row, p);
            digits = "0".repeat(k - digits.length()) + digits;
            int sum = 0;
            for (int i = 0; i < k; i++) {
                int x = digits.charAt(i) - '0';
                sum += g.dials.get(i) * x * x;
            }
            if (mod(sum) == number) {
                return row;
            }
        }
        return -1;
    }

    /** All orders as texts of digits, the smallest first; the first one that fits. */
    private String order(Ground one, Ground other) {
        if (one.kind != 1 || other.kind != 1 || one.dials.size() != other.dials.size()) {
            return null;
        }
        List<String> orders = new ArrayList<>();
        orders(one.dials.size(), "", orders);
        for (String order : orders) {
            boolean fits = true;
            for (int i = 0; i < order.length(); i++) {
                fits &= scale(one.dials.get(i), other.dials.get(order.charAt(i) - '0')) > 0;
            }
            if (fits) {
                return order;
            }
        }
        return null;
    }

    private static void orders(int k, String start, List<String> into) {
        if (start.length() == k) {
            into.add(start);
            return;
        }
        for (int i = 0; i < k; i++) {
            if (start.indexOf('0' + i) < 0) {
                orders(k, start + i, into);
            }
        }
    }

    private int scale(int dial, int from) {
        for (int scale = 1; scale < p; scale++) {
            if (mod(dial * over(mod(from * scale * scale))) == 1) {
                return scale;
            }
        }
        return -1;
    }

    int match(int one, int other) {
        String order = order(ground(one), ground(other));
        return order == null ? -1 : order.isEmpty() ? 0 : Integer.parseInt(order);
    }

    int scaleOf(int one, int other, int generator) {
        Ground first = ground(one);
        Ground second = ground(other);
        String order = order(first, second);
        if (order == null || generator < 0 || generator >= order.length()) {
            return -1;
        }
        return scale(first.dials.get(generator), second.dials.get(order.charAt(generator) - '0'));
    }

    long digest() {
        List<Integer> told = new ArrayList<>();
        for (int what = 0; what < 8; what++) {
            told.add(many(what));
        }
        for (int a = 0; a < grounds.size(); a++) {
            for (int what = 0; what < 6; what++) {
                told.add(ofAlgebra(a, what));
            }
            for (int law = 0; law < 4; law++) {
                told.add(breaks(a, law));
            }
            told.add(row(a, 0));
            told.add(row(a, 1));
            for (int b = 0; b < grounds.size(); b++) {
                told.add(match(a, b));
            }
        }
        for (int e = 0; e < numbers.size(); e++) {
            for (int cell : numbers.get(e).cells) {
                told.add(cell);
            }
            for (int what = 0; what < 10; what++) {
                told.add(ofElement(e, what));
            }
            told.add(text(e).length());
        }
        BigInteger d = BigInteger.valueOf(58236);
        for (int v : told) {
            d = d.multiply(BigInteger.valueOf(31)).add(BigInteger.valueOf(v));
        }
        return d.longValue();
    }
}
