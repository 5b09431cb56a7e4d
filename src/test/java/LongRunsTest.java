/** Long runs of calls on Versorhall and on ReferenceHouse: each answer has to be the same. */
public final class LongRunsTest {
    private static final int RUNS = 200;
    /** What calls above 512 answer is free; a step makes some 20 at most. */
    private static final int CALLS = 480;

    private final Answers answers = new Answers();
    private long seed;
    private Versorhall x;
    private ReferenceHouse y;
    private int p;
    private int calls;

    public static void main(String[] args) {
        LongRunsTest test = new LongRunsTest();
        for (int run = 0; run < RUNS && test.answers.allAsDue(); run++) {
            test.run(run);
        }
        test.answers.end();
    }

    /** The same numbers each time, so that what fails once fails always. */
    private int upTo(int below) {
        seed = seed * 6364136223846793005L + 1442695040888963407L;
        return (int) ((seed >>> 33) % below);
    }

    /** A number below that limit, or now and then one just outside. */
    private int about(int below) {
        int chance = upTo(40);
        return chance == 0 ? -1 : chance == 1 ? below : below > 0 ? upTo(below) : 0;
    }

    private void run(int run) {
        seed = 1000003L * run + 17;
        x = new Versorhall();
        y = new ReferenceHouse();
        p = 7;
        if (run % 4 != 0) {
            p = new int[] {3, 5, 7}[run % 3];
            int prime = p;
            answers.same("prime", x.prime(prime), y.prime(prime));
        }
        calls = 1;
        begin(run);
        for (int step = 0; calls < CALLS && answers.allAsDue(); step++) {
            String told = "run " + run + ", step " + step + ": ";
            step(told);
            if (step % 9 == 0 && (step < 60 || step % 27 == 0)) {
                digests(told);
            }
        }
        digests("run " + run + ", last: ");
    }

    private void digests(String told) {
        calls++;
        answers.same(told + "digest()", x.digest(), y.digest());
    }

    /** Most runs begin with ALGEBRAS of some size, as otherwise ELEMENTS soon bar their DIALS. */
    private void begin(int run) {
        int algebras = run % 5;
        for (int a = 0; a < algebras; a++) {
            int kind = upTo(5) < 2 ? 0 : 1;
            calls++;
            answers.same("algebra", x.algebra(kind), y.algebra(kind));
            int dials = upTo(5);
            for (int d = 0; d < dials; d++) {
                int algebra = a;
                int dial = 1 + upTo(p - 1);
                calls++;
                answers.same("dial", x.dial(algebra, dial), y.dial(algebra, dial));
            }
        }
    }

    private void both(String told, java.util.concurrent.Callable<?> one, java.util.concurrent.Callable<?> other) {
        calls++;
        Object want = Answers.of(other);
        answers.same(told, Answers.of(one), want);
        if (want instanceof String && ((String) want).startsWith("throws.") && upTo(8) == 0) {
            digests(told + ", then ");
        }
    }

    private void step(String told) {
        int kind = upTo(36);
        if (kind < 12) {
            tell(told, kind);
        } else if (kind < 24) {
            make(told, kind);
        } else {
            ask(told, kind);
        }
    }

    private int anElement() {
        return about(Math.max(1, y.many(2)));
    }

    private int anAlgebra() {
        return about(Math.max(1, y.many(1)));
    }

    private int aUnitOf(int element) {
        boolean known = element >= 0 && element < y.many(2);
        return about(known ? y.ofAlgebra(y.ofElement(element, 0), 2) : 1);
    }

    private void tell(String told, int kind) {
        int a = anAlgebra();
        int n = about(p);
        switch (kind) {
            case 0:
                int prime = upTo(9);
                both(told + "prime " + prime, () -> x.prime(prime), () -> y.prime(prime));
                p = y.many(0);
                break;
            case 1:
                int made = about(2);
                both(told + "algebra " + made, () -> x.algebra(made), () -> y.algebra(made));
                break;
            case 2:
                both(told + "dial " + a + " " + n, () -> x.dial(a, n), () -> y.dial(a, n));
                break;
            case 3:
                both(told + "element " + a, () -> x.element(a), () -> y.element(a));
                break;
            case 4:
                vector(told);
                break;
            case 5:
                nilpotent(told);
                break;
            default:
                int e = anElement();
                int unit = aUnitOf(e);
                int number = upTo(3) == 0 ? 0 : n;
                both(told + "set " + e + " " + unit + " " + number,
                    () -> x.set(e, unit, number), () -> y.set(e, unit, number));
        }
    }

    /** Makes an ELEMENT a VECTOR, which it would seldom be by chance. */
    private void vector(String told) {
        fill(told, 1, 1);
    }

    /** Makes an ELEMENT without number at UNIT 0, which is a zero divisor more often. */
    private void nilpotent(String told) {
        fill(told, 1, 4);
    }

    private void fill(String told, int fewest, int most) {
        if (y.many(2) == 0) {
            return;
        }
        int e = upTo(y.many(2));
        int units = y.ofAlgebra(y.ofElement(e, 0), 2);
        for (int unit = 0; unit < units; unit++) {
            int place = unit;
            int generators = Integer.bitCount(unit);
            int number = generators >= fewest && generators <= most && upTo(3) > 0 ? upTo(p) : 0;
            both(told + "set " + e + " " + place + " " + number,
                () -> x.set(e, place, number), () -> y.set(e, place, number));
        }
    }

    private void make(String told, int kind) {
        int r = anElement();
        int e = anElement();
        int f = anElement();
        int n = about(p);
        String three = " " + r + " " + e + " " + f;
        switch (kind) {
            case 12:
                both(told + "sum" + three, () -> x.sum(r, e, f), () -> y.sum(r, e, f));
                break;
            case 13:
                both(told + "product" + three, () -> x.product(r, e, f), () -> y.product(r, e, f));
                break;
            case 14:
                both(told + "scale" + three + " " + n, () -> x.scale(r, e, n), () -> y.scale(r, e, n));
                break;
            case 15:
                both(told + "conjugate" + three, () -> x.conjugate(r, e), () -> y.conjugate(r, e));
                break;
            case 16:
                int power = upTo(2) == 0 ? about(61) : upTo(5);
                both(told + "power" + three + " " + power, () -> x.power(r, e, power), () -> y.power(r, e, power));
                break;
            case 17:
                both(told + "invert" + three, () -> x.invert(r, e), () -> y.invert(r, e));
                break;
            case 18:
                both(told + "series" + three, () -> x.series(r, e), () -> y.series(r, e));
                break;
            case 19:
                both(told + "killer" + three, () -> x.killer(r, e), () -> y.killer(r, e));
                break;
            case 20:
                both(told + "hang" + three, () -> x.hang(e), () -> y.hang(e));
                break;
            case 21:
                both(told + "mirror" + three, () -> x.mirror(r, e, f), () -> y.mirror(r, e, f));
                break;
            case 22:
                int word = word();
                both(told + "run" + three + " " + word, () -> x.run(r, word), () -> y.run(r, word));
                break;
            default:
                int a = anAlgebra();
                int chance = upTo(5);
                if (chance == 0) {
                    both(told + "clear " + a, () -> x.clear(a), () -> y.clear(a));
                } else if (chance < 3) {
                    both(told + "versor" + three, () -> x.versor(r), () -> y.versor(r));
                } else {
                    both(told + "turn" + three, () -> x.turn(r, e), () -> y.turn(r, e));
                }
        }
    }

    /** Mostly a WORD that leaves one on the pile; now and then any digits. */
    private int word() {
        if (upTo(6) == 0) {
            return upTo(4) == 0 ? -upTo(1000) : upTo(Integer.MAX_VALUE);
        }
        int word = 0;
        int place = 1;
        int height = 0;
        int puts = 1 + upTo(4);
        while (puts > 0 || height > 1) {
            boolean put = puts > 0 && (height < 2 || upTo(2) == 0);
            word += place * (put ? upTo(Math.max(1, Math.min(6, y.many(2)))) : 6 + upTo(3));
            place *= 10;
            puts -= put ? 1 : 0;
            height += put ? 1 : -1;
        }
        return upTo(3) == 0 ? word + 9 * place : word;
    }

    private void ask(String told, int kind) {
        int e = anElement();
        int f = anElement();
        int a = anAlgebra();
        int b = anAlgebra();
        int unit = aUnitOf(e);
        int other = aUnitOf(e);
        int what = about(10);
        String two = " " + e + " " + f + " " + a + " " + b;
        switch (kind) {
            case 24:
                both(told + "at" + two + " " + unit, () -> x.at(e, unit), () -> y.at(e, unit));
                break;
            case 25:
            case 26:
                both(told + "ofElement" + two + " " + what, () -> x.ofElement(e, what), () -> y.ofElement(e, what));
                break;
            case 27:
                both(told + "text" + two, () -> x.text(e), () -> y.text(e));
                break;
            case 28:
                int asked = about(6);
                both(told + "ofAlgebra" + two + " " + asked, () -> x.ofAlgebra(a, asked), () -> y.ofAlgebra(a, asked));
                break;
            case 29:
                both(told + "sign" + two + " " + unit + " " + other,
                    () -> x.sign(a, unit, other), () -> y.sign(a, unit, other));
                break;
            case 30:
                int law = about(4);
                both(told + "breaks" + two + " " + law, () -> x.breaks(a, law), () -> y.breaks(a, law));
                break;
            case 31:
                both(told + "meanSize", () -> x.meanSize(), () -> y.meanSize());
                both(told + "poise", () -> x.poise(), () -> y.poise());
                break;
            case 32:
                both(told + "lean" + two, () -> x.lean(e), () -> y.lean(e));
                break;
            case 33:
                int counted = about(8);
                both(told + "many " + counted, () -> x.many(counted), () -> y.many(counted));
                break;
            case 34:
                int number = about(p);
                both(told + "row" + two + " " + number, () -> x.row(a, number), () -> y.row(a, number));
                both(told + "apart" + two, () -> x.apart(e, f), () -> y.apart(e, f));
                break;
            default:
                int generator = about(4);
                both(told + "match" + two, () -> x.match(a, b), () -> y.match(a, b));
                both(told + "scaleOf" + two + " " + generator,
                    () -> x.scaleOf(a, b, generator), () -> y.scaleOf(a, b, generator));
        }
    }
}
