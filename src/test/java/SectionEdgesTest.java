/**
 * The sections 1 to 5 of the document: each sentence that names a boundary case (too small, too large, empty,
 * full, a wrap-around), quoted, with a test of its own.
 */
public final class SectionEdgesTest {
    private static final int DOUBLED = Houses.DOUBLED;
    private static final int BLADES = Houses.BLADES;
    private static final int NONE = -1;
    private static final Answers IS = new Answers();

    public static void main(String[] args) {
        use();
        ground();
        algebras();
        doubled();
        blades();
        elements();
        intoItself();
        inverse();
        series();
        killer();
        allKillers();
        words();
        vectors();
        mirrors();
        laws();
        forms();
        matches();
        leaning();
        IS.end();
    }

    private static void text(String told, Versorhall x, int element, String want) {
        IS.due(told, want, () -> x.text(element));
    }

    private static void fill(Versorhall x, int element, int... numbers) {
        Houses.fill(x, element, numbers);
    }

    /** That number for each of so many UNITS. */
    private static int[] all(int units, int number) {
        int[] numbers = new int[units];
        java.util.Arrays.fill(numbers, number);
        return numbers;
    }

    private static void use() {
        IS.sentence("An object is used for at most 512 calls after it has been made");
        Versorhall x = Houses.house(7, BLADES, 2, 1, 1);
        x.set(0, 1, 1);
        x.set(1, 0, 1);
        // The house took 6 calls and these are 2. Times e1 again and again: the 1 goes between UNIT 0 and UNIT 1.
        for (int call = 9; call < 512; call++) {
            int step = call;
            IS.due("call " + step, 1, () -> x.product(1, 1, 0));
        }
        text("call 512, after 503 products", x, 1, "1e1");
        Versorhall y = new Versorhall();
        y.algebra(BLADES);
        for (int call = 2; call < 512; call++) {
            y.clear(0);
        }
        IS.due("call 512, after 510 KNOCKS", 510, () -> y.many(6));
    }

    // ---- 1. The ground

    private static void ground() {
        IS.sentence("for the PRIME P (3, 5 or 7; 7 at first)");
        IS.due("at first", 7, () -> new Versorhall().many(0));
        for (int number = -1; number <= 12; number++) {
            int prime = number;
            boolean is = prime == 3 || prime == 5 || prime == 7;
            IS.due("prime " + prime, is ? (Object) 7 : "throws.IllegalArgumentException", () -> new Versorhall().prime(prime));
        }
        for (int prime : Houses.PRIMES) {
            numbersOf(prime);
            wrapAround(prime);
            division(prime);
        }
        IS.sentence("NONE is -1");
        IS.due("LAW 0 holds", -1, () -> Houses.house(7, DOUBLED, 0).breaks(0, 0));
        IS.due("no row", -1, () -> Houses.house(7, DOUBLED, 0).row(0, 0));
        IS.due("no POWER is 1", -1, () -> Houses.house(7, DOUBLED, 1).ofElement(0, 4));
        IS.due("no match", -1, () -> Houses.house(7, DOUBLED, 0).match(0, 0));
        IS.sentence("A set is the sum of 2^k for the number k of each");
        IS.due("of 0 alone", 1, () -> Houses.house(7, BLADES, 0).ofAlgebra(0, 4));
        IS.due("of 0 and 1, which are all", 3, () -> Houses.house(7, BLADES, 0, 2).ofAlgebra(0, 4));
        IS.due("of 0 and the greatest, 7", 1 + 128, () -> Houses.house(7, BLADES, 0, 1, 1, 1).ofAlgebra(0, 4));
    }

    private static void numbersOf(int prime) {
        IS.sentence("All numbers are 0 to P less 1");
        Versorhall x = Houses.house(prime, BLADES, 1);
        for (int n = 0; n < prime; n++) {
            int number = n;
            IS.due("set " + number, Math.max(0, number - 1), () -> x.set(0, 0, number));
            IS.due("at, after set " + number, number, () -> x.at(0, 0));
        }
        IS.argument("below 0", () -> x.set(0, 0, -1));
        IS.argument("P " + prime, () -> x.set(0, 0, prime));
    }

    /** Of all pairs of numbers; those above P less 1 and below 0 go round. */
    private static void wrapAround(int p) {
        IS.sentence("sums, differences and products of them are taken modulo P");
        Versorhall x = Houses.house(p, DOUBLED, 3);
        for (int a = 0; a < p; a++) {
            x.set(0, 0, a);
            for (int b = 0; b < p; b++) {
                String pair = a + " and " + b + " by " + p;
                x.set(1, 0, b);
                x.sum(2, 0, 1);
                IS.due("sum of " + pair, (a + b) % p, () -> x.at(2, 0));
                x.run(2, 810);
                IS.due("difference of " + pair, (a - b + p) % p, () -> x.at(2, 0));
                x.product(2, 0, 1);
                IS.due("product of " + pair, a * b % p, () -> x.at(2, 0));
                x.scale(2, 0, b);
                IS.due("multiple of " + pair, a * b % p, () -> x.at(2, 0));
            }
        }
    }

    private static void division(int p) {
        IS.sentence("a / b is the number that times b is a");
        Versorhall x = Houses.house(p, DOUBLED, 2);
        IS.state("1 / 0", () -> x.invert(1, 0));
        for (int b = 1; b < p; b++) {
            x.set(0, 0, b);
            x.invert(1, 0);
            x.product(1, 1, 0);
            text("1 / " + b + ", times " + b + " by " + p, x, 1, "1e0");
        }
    }

    // ---- 2. Algebras

    private static void algebras() {
        IS.sentence("ALGEBRAS: at most 4, numbered from 0");
        Versorhall x = new Versorhall();
        IS.index("none yet", () -> x.ofAlgebra(0, 0));
        for (int number = 0; number < 4; number++) {
            int want = number;
            IS.due("ALGEBRA " + want, want, () -> x.algebra(DOUBLED));
        }
        IS.state("a fifth", () -> x.algebra(DOUBLED));
        IS.due("the last one", 0, () -> x.ofAlgebra(3, 0));
        IS.index("no fifth", () -> x.ofAlgebra(4, 0));
        for (int kind : new int[] {DOUBLED, BLADES}) {
            dials(kind);
            units(kind);
        }
        IS.sentence("Of an ALGEBRA with ELEMENTS no DIAL is told any more");
        Versorhall y = Houses.house(7, BLADES, 1);
        IS.state("without DIALS", () -> y.dial(0, 1));
        y.algebra(BLADES);
        IS.due("an ALGEBRA without ELEMENTS", 2, () -> y.dial(1, 1));
        y.element(1);
        IS.state("with one DIAL", () -> y.dial(1, 1));
        IS.due("as before", 2, () -> y.ofAlgebra(1, 2));
    }

    private static void dials(int kind) {
        IS.sentence("with DIALS (at most 4; none at first), numbers that are not 0");
        Versorhall x = Houses.house(5, kind, 0);
        IS.due("none at first", 0, () -> x.ofAlgebra(0, 1));
        IS.argument("0", () -> x.dial(0, 0));
        IS.argument("P", () -> x.dial(0, 5));
        IS.argument("below 0", () -> x.dial(0, -1));
        for (int count = 1; count <= 4; count++) {
            int want = count;
            IS.due("UNITS by DIAL " + want, 1 << want, () -> x.dial(0, want));
            IS.due("DIALS", want, () -> x.ofAlgebra(0, 1));
        }
        IS.state("a fifth", () -> x.dial(0, 1));
        IS.due("still 4", 4, () -> x.ofAlgebra(0, 1));
    }

    private static void units(int kind) {
        for (int dials = 0; dials <= 4; dials++) {
            IS.sentence("With k DIALS it has 2^k UNITS, numbered from 0");
            int units = 1 << dials;
            Versorhall x = Houses.house(7, kind, 1, all(dials, 3));
            IS.due("UNITS", units, () -> x.ofAlgebra(0, 2));
            IS.due("the last one", 0, () -> x.at(0, units - 1));
            IS.index("one more", () -> x.at(0, units));
            IS.index("below 0", () -> x.at(0, -1));
            IS.sentence("UNIT 0 is 1");
            for (int u = 0; u < units; u++) {
                int unit = u;
                IS.due("1 times " + unit, 1, () -> x.sign(0, 0, unit));
                IS.due(unit + " times 1", 1, () -> x.sign(0, unit, 0));
            }
        }
    }

    private static void doubled() {
        IS.sentence("without DIALS there is the UNIT 0 alone, SIGN 1");
        for (int prime : Houses.PRIMES) {
            Versorhall x = Houses.house(prime, DOUBLED, 0);
            IS.due("UNITS", 1, () -> x.ofAlgebra(0, 2));
            IS.due("SIGN", 1, () -> x.sign(0, 0, 0));
            IS.index("no UNIT 1", () -> x.sign(0, 0, 1));
        }
        IS.sentence("With one DIAL g more, of h UNITS there are 2 times h");
        Versorhall x = Houses.house(7, DOUBLED, 0);
        int[] dials = {2, 3, 4, 5};
        for (int k = 0; k < 4; k++) {
            int h = 1 << k;
            int dial = dials[k];
            IS.due("UNITS", 2 * h, () -> x.dial(0, dial));
            // (0, 1)(0, 1) is (g 1' 1, 0).
            IS.due("UNIT h times itself, h " + h, dial, () -> x.sign(0, h, h));
            IS.due("UNIT h and h less 1 is there", 1, () -> x.sign(0, 0, 2 * h - 1));
            IS.index("no UNIT 2 h", () -> x.sign(0, 0, 2 * h));
        }
        IS.sentence("UNIT h and j is the UNIT j of the second half");
        for (int j = 1; j < 8; j++) {
            int unit = j;
            // (j, 0)(0, 1) is (0, 1 j) and (0, 1)(j, 0) is (0, 1 j').
            IS.due(unit + " 8", 1, () -> x.sign(0, unit, 8));
            IS.due("8 " + unit, 6, () -> x.sign(0, 8, unit));
        }
        IS.sentence("the CONJUGATE (a, b)' is (a', -b); that of UNIT 0 is itself");
        for (int k = 0; k <= 4; k++) {
            Versorhall y = Houses.house(5, DOUBLED, 1, all(k, 2));
            fill(y, 0, all(1 << k, 1));
            y.conjugate(0, 0);
            for (int u = 0; u < 1 << k; u++) {
                int unit = u;
                IS.due("CONJUGATE of UNIT " + unit + " of " + (1 << k), unit == 0 ? 1 : 4, () -> y.at(0, unit));
            }
        }
    }

    private static void blades() {
        IS.sentence("the number of a UNIT is a set of GENERATORS (0 to k less 1), one for each DIAL");
        Versorhall x = Houses.house(7, BLADES, 1, 2, 3, 4, 5);
        for (int g = 0; g < 4; g++) {
            int unit = 1 << g;
            IS.due("GENERATOR " + g + " times itself is its DIAL", g + 2, () -> x.sign(0, unit, unit));
        }
        IS.due("no GENERATOR without DIALS", NONE, () -> Houses.house(7, BLADES, 0).scaleOf(0, 0, 0));
        IS.sentence("-1 for each pair of a GENERATOR in i and a smaller one in j");
        IS.due("no pair: all smaller ones ahead", 1, () -> x.sign(0, 7, 8));
        IS.due("one pair", 6, () -> x.sign(0, 2, 1));
        IS.due("two pairs", 1, () -> x.sign(0, 4, 3));
        IS.due("three pairs", 6, () -> x.sign(0, 8, 7));
        IS.due("four pairs", 1, () -> x.sign(0, 12, 3));
        IS.due("an equal one is no pair", 2, () -> x.sign(0, 1, 1));
        IS.sentence("the DIAL of each GENERATOR that is in both, all multiplied");
        IS.due("none in both: the pairs alone", 6, () -> x.sign(0, 5, 10));
        // Six pairs, which is no -1, and 2 * 3 * 4 * 5 = 120.
        IS.due("all in both", 120 % 7, () -> x.sign(0, 15, 15));
        IS.sentence("-1 times it, if r modulo 4 is 1 or 2, otherwise itself");
        fill(x, 0, all(16, 1));
        x.conjugate(0, 0);
        int[] byGenerators = {1, 6, 6, 1, 1};
        for (int u = 0; u < 16; u++) {
            int unit = u;
            IS.due("UNIT " + unit, byGenerators[Integer.bitCount(unit)], () -> x.at(0, unit));
        }
    }

    private static void elements() {
        IS.sentence("ELEMENTS: at most 10, numbered from 0");
        Versorhall x = Houses.house(7, BLADES, 0, 1, 2, 3, 4);
        IS.index("none yet", () -> x.text(0));
        for (int number = 0; number < 10; number++) {
            int want = number;
            IS.due("ELEMENT " + want, want, () -> x.element(0));
        }
        IS.state("an eleventh", () -> x.element(0));
        IS.index("no eleventh", () -> x.text(10));
        IS.sentence("with a number for each UNIT (0 at first)");
        for (int u = 0; u < 16; u++) {
            int unit = u;
            IS.due("UNIT " + unit, 0, () -> x.at(9, unit));
        }
        plainOnes(x);
        IS.sentence("Its NORM is the number of UNIT 0 in the product of it and its CONJUGATE");
        IS.due("of 0", 0, () -> x.ofElement(8, 2));
        fill(x, 8, 6);
        IS.due("of -1", 1, () -> x.ofElement(8, 2));
        fill(x, 8, 0, 6);
        IS.due("of -e1, whose DIAL is 1", 6, () -> x.ofElement(8, 2));
        fill(x, 8, 1, 1);
        IS.due("of 1 + e1, that is not 0", 0, () -> x.ofElement(8, 2));
        IS.sentence("x^0 is 1, x^(n+1) is x^n times x");
        x.power(7, 9, 0);
        text("0^0", x, 7, "1e0");
        x.power(7, 9, 1);
        text("0^1", x, 7, "0");
        x.power(7, 8, 0);
        text("(1 + e1)^0", x, 7, "1e0");
        x.power(7, 8, 1);
        text("(1 + e1)^1", x, 7, "1e0+1e1");
        x.power(7, 8, 60);
        // (1 + e1)^n is 2^(n-1) (1 + e1), and 2^59 is 2^2.
        text("(1 + e1)^60", x, 7, "4e0+4e1");
    }

    private static void plainOnes(Versorhall x) {
        IS.sentence("An ELEMENT is PLAIN, if all its numbers but that of UNIT 0 are 0");
        IS.due("0", 1, () -> x.ofElement(9, 3));
        x.set(9, 0, 6);
        IS.due("6", 1, () -> x.ofElement(9, 3));
        for (int u = 1; u < 16; u++) {
            int unit = u;
            x.set(9, unit, 1);
            IS.due("with UNIT " + unit, 0, () -> x.ofElement(9, 3));
            x.set(9, unit, 0);
        }
        x.set(9, 0, 0);
        x.set(9, 1, 1);
        IS.due("with UNIT 1 alone", 0, () -> x.ofElement(9, 3));
        x.set(9, 1, 0);
    }

    // ---- 3. What is made

    private interface Made {
        int into(Versorhall x, int element);
    }

    private static void intoItself() {
        IS.sentence("Each of these puts its result into an ELEMENT (also one of those from which it is made)");
        itself("sum", (x, r) -> x.sum(r, 4, 5), 4, 5);
        itself("sum with itself", (x, r) -> x.sum(r, 7, 7), 7);
        itself("product", (x, r) -> x.product(r, 7, 5), 7, 5);
        itself("product with itself", (x, r) -> x.product(r, 7, 7), 7);
        itself("multiple", (x, r) -> x.scale(r, 7, 3), 7);
        itself("CONJUGATE", (x, r) -> x.conjugate(r, 7), 7);
        itself("POWER 0", (x, r) -> x.power(r, 7, 0), 7);
        itself("POWER 5", (x, r) -> x.power(r, 7, 5), 7);
        itself("INVERSE", (x, r) -> x.invert(r, 4), 4);
        itself("SERIES", (x, r) -> x.series(r, 6), 6);
        itself("KILLER", (x, r) -> x.killer(r, 6), 6);
        itself("MIRRORED", (x, r) -> x.mirror(r, 4, 7), 4, 7);
        itself("MIRRORED by itself", (x, r) -> x.mirror(r, 4, 4), 4);
        itself("TURNED", (x, r) -> x.turn(r, 7), 7);
        itself("a WORD", (x, r) -> x.run(r, 798454), 4, 5);
    }

    /** The result has to be the same in an ELEMENT apart (here 6 or 7, as the call reads another) and in each that it reads. */
    private static void itself(String told, Made made, int... read) {
        int apart = read[0] == 7 || read[read.length - 1] == 7 ? 6 : 7;
        Versorhall free = Houses.full();
        int size = made.into(free, apart);
        String want = free.text(apart);
        for (int element : read) {
            Versorhall x = Houses.full();
            IS.due(told + " into " + element, size, () -> made.into(x, element));
            text(told + " into " + element, x, element, want);
            for (int other = 0; other < 10; other++) {
                if (other != element) {
                    text(told + " into " + element + " leaves " + other, x, other, Houses.full().text(other));
                }
            }
        }
    }

    private static void inverse() {
        Versorhall x = Houses.house(7, BLADES, 3, 1, 1, 1);
        IS.sentence("if the product of x and its CONJUGATE is PLAIN, and NORM is not 0");
        IS.state("of 0: PLAIN, NORM 0", () -> x.invert(2, 0));
        fill(x, 0, 1, 1);
        IS.state("of 1 + e1: PLAIN, NORM 0", () -> x.invert(2, 0));
        fill(x, 0, 2, 0, 0, 0, 0, 0, 0, 1);
        IS.due("NORM of 2 + e7", 3, () -> x.ofElement(0, 2));
        IS.state("of 2 + e7: not PLAIN, NORM not 0", () -> x.invert(2, 0));
        fill(x, 0, 1, 0, 0, 0, 0, 0, 0, 1);
        IS.state("of 1 + e7: not PLAIN, NORM 0", () -> x.invert(2, 0));
        fill(x, 0, 2, 1, 0, 0, 0, 0, 0, 0);
        IS.due("of 2 + e1: PLAIN, NORM 3", 2, () -> x.invert(2, 0));
        // (2 - e1) / 3, and 1 / 3 is 5.
        text("of 2 + e1", x, 2, "3e0+2e1");
        fill(x, 0, 0, 0, 0, 0, 0, 0, 0, 3);
        IS.due("of the greatest UNIT alone", 1, () -> x.invert(2, 0));
        // e7 e7 is -1 and its own CONJUGATE: 3 e7 / (9 * -1), and 9 * -1 is 5.
        text("of 3 e7", x, 2, "2e7");
    }

    private static void series() {
        IS.sentence("The SERIES of x: if one of x^1 to x^P is 0, the first of these being x^m");
        for (int prime : Houses.PRIMES) {
            Versorhall x = Houses.house(prime, BLADES, 2, 1, prime - 1);
            x.series(1, 0);
            text("m is 1, as x is 0", x, 1, "1e0");
            fill(x, 0, 0, 1, 1);
            x.series(1, 0);
            text("m is 2", x, 1, "1e0+1e1+1e2");
            fill(x, 0, 1, 0, 0);
            IS.state("no x^m is 0", () -> x.series(1, 0));
        }
        Versorhall three = Houses.house(3, BLADES, 3, 1, 2, 1, 2);
        three.set(0, 5, 2);
        three.set(0, 6, 1);
        three.set(0, 7, 1);
        three.set(0, 8, 1);
        IS.due("m is P", 3, () -> three.ofElement(0, 5));
        three.power(1, 0, 2);
        text("x x", three, 1, "2e1+1e2+1e13+2e14");
        IS.due("m is P", 9, () -> three.series(1, 0));
        // 1 / 2! is 2.
        text("1 + x + x x / 2!", three, 1, "1e0+1e1+2e2+2e5+1e6+1e7+1e8+2e13+1e14");
        Versorhall late = Houses.house(3, BLADES, 2, 1, 2, 1, 2);
        late.set(0, 6, 2);
        late.set(0, 8, 2);
        late.set(0, 11, 2);
        late.set(0, 12, 2);
        late.power(1, 0, 4);
        text("x^(P+1) is 0", late, 1, "0");
        late.power(1, 0, 3);
        text("x^P is not", late, 1, "1e2+2e6+2e11+2e15");
        IS.state("m would be P and 1", () -> late.series(1, 0));
        seriesToTheLast();
    }

    private static void seriesToTheLast() {
        IS.sentence("the sum of x^n / n! for n from 0 to m less 1");
        Versorhall x = Houses.house(5, BLADES, 5, 1, 4, 1, 4);
        x.set(0, 9, 3);
        x.set(0, 10, 1);
        x.set(0, 12, 4);
        x.set(0, 13, 1);
        IS.due("m is 4", 4, () -> x.ofElement(0, 5));
        // 1 / 2! is 3 and 1 / 3! is 1 by 5: 1 + x + 3 x x + x x x.
        x.power(1, 0, 3);
        x.power(2, 0, 2);
        x.scale(2, 2, 3);
        x.power(3, 0, 0);
        x.run(4, 6362610);
        String want = x.text(4);
        x.series(4, 0);
        text("1 + x + x x / 2! + x x x / 3!", x, 4, want);
    }

    private static void killer() {
        IS.sentence("of the y with x y = 0, that are not 0");
        Versorhall x = Houses.house(7, BLADES, 2, 1, 1);
        fill(x, 0, 3);
        IS.state("none: x is a number", () -> x.killer(1, 0));
        fill(x, 0, 1, 2);
        IS.state("none: x has an INVERSE", () -> x.killer(1, 0));
        text("nothing is put", x, 1, "0");
        IS.sentence("the one whose greatest UNIT with a number that is not 0 is smallest, and has the number 1 there");
        fill(x, 0, 0, 0);
        IS.due("all y, as x is 0", 0, () -> x.killer(1, 0));
        text("x is 0", x, 1, "1e0");
        fill(x, 0, 1, 1);
        IS.due("1 + e1", 1, () -> x.killer(1, 0));
        text("1 + e1", x, 1, "6e0+1e1");
        Versorhall y = Houses.house(7, BLADES, 2, 1);
        fill(y, 0, 2, 5);
        IS.due("the greatest UNIT of all", 1, () -> y.killer(1, 0));
        text("2 - 2 e1", y, 1, "1e0+1e1");
        IS.sentence("of the y with x y = 0, that are not 0");
        fill(x, 0, 0, 0, 1, 1);
        // e2 e1 + e3 e1 is -e3 - e2, but e1 e2 + e1 e3 is e3 + e2: here y x is not 0.
        x.killer(1, 0);
        text("x y is 0, not y x", x, 1, "1e0+1e1");
        fill(x, 0, 1, 2, 3, 4);
        x.power(1, 0, 1);
        fill(x, 0, 0, 0, 0, 0);
        x.killer(1, 0);
        text("nothing stays of a result that had more", x, 1, "1e0");
        Versorhall none = Houses.house(7, BLADES, 2);
        IS.due("0 of UNIT 0 alone", 0, () -> none.killer(1, 0));
        fill(none, 0, 6);
        IS.state("6 of UNIT 0 alone", () -> none.killer(1, 0));
    }

    /** All x of four UNITS by 3: the KILLER is the first y with x y = 0, of those that have a 1 and then 0, in order. */
    private static void allKillers() {
        IS.sentence("the one whose greatest UNIT with a number that is not 0 is smallest, and has the number 1 there");
        for (int code = 0; code < 2 * 81; code++) {
            Versorhall x = Houses.house(3, code % 2, 3, 1, 2);
            int x0 = code / 2;
            fill(x, 0, x0 % 3, x0 / 3 % 3, x0 / 9 % 3, x0 / 27);
            String told = "KILLER of " + x.text(0) + " of KIND " + code % 2;
            int greatest = firstKilled(x);
            if (greatest == NONE) {
                IS.state(told, () -> x.killer(2, 0));
            } else {
                IS.due(told, greatest, () -> x.killer(2, 0));
                text(told, x, 2, x.text(1));
            }
        }
    }

    /** Makes the ELEMENT 1 the KILLER of 0 by trying them all; tells its greatest UNIT. */
    private static int firstKilled(Versorhall x) {
        int from = 1;
        for (int greatest = 0; greatest < 4; greatest++) {
            for (int code = from; code < 2 * from; code++) {
                fill(x, 1, code % 3, code / 3 % 3, code / 9 % 3, code / 27);
                if (x.product(2, 0, 1) == 0) {
                    return greatest;
                }
            }
            from *= 3;
        }
        return NONE;
    }

    private static void words() {
        Versorhall x = Houses.house(7, DOUBLED, 7, 6, 6);
        for (int element = 0; element < 7; element++) {
            x.set(element, element % 4, element + 1 < 7 ? element + 1 : 1);
        }
        IS.sentence("0 has the digit 0");
        x.run(6, 0);
        text("run 0", x, 6, "1e0");
        IS.sentence("0 to 5 put the ELEMENT of that number on a pile");
        String[] wants = {"1e0", "2e1", "3e2", "4e3", "5e0", "6e1"};
        for (int digit = 0; digit <= 5; digit++) {
            x.run(6, digit);
            text("run " + digit, x, 6, wants[digit]);
        }
        IS.argument("6 puts none", () -> x.run(6, 6));
        IS.sentence("There has to be enough on the pile each time");
        for (int word : new int[] {6, 7, 8, 9, 60, 70, 80, 96, 69, 890, 906, 6600, 7610, 888210, 996666600}) {
            IS.argument("not enough: " + word, () -> x.run(6, word));
        }
        IS.due("just enough for 6, 7 and 8", 1, () -> x.run(6, 710));
        IS.due("just enough for 9", 1, () -> x.run(6, 90));
        IS.due("just enough, twice", 1, () -> x.run(6, 77210));
        IS.sentence("and one at the end: its result");
        for (int word : new int[] {10, 210, 90010, 6210, 111111111, 1111111111, Integer.MAX_VALUE}) {
            IS.argument("more than one: " + word, () -> x.run(6, word));
        }
        IS.due("five and four, the most that an int has", 1, () -> x.run(6, 666600000));
        text("five times 1", x, 6, "5e0");
        IS.due("eight CONJUGATES", 1, () -> x.run(6, 999999991));
        text("eight CONJUGATES of 2 e1", x, 6, "2e1");
    }

    private static void vectors() {
        IS.sentence("In an ALGEBRA of BLADES a VECTOR is an ELEMENT");
        Versorhall d = Houses.house(7, DOUBLED, 1, 1);
        fill(d, 0, 0, 1);
        IS.due("of DOUBLED", NONE, () -> d.ofElement(0, 7));
        IS.sentence("whose UNITS with numbers that are not 0 have one GENERATOR each (there is one such UNIT at least)");
        Versorhall none = Houses.house(7, BLADES, 1);
        IS.due("0 without DIALS", NONE, () -> none.ofElement(0, 7));
        fill(none, 0, 1);
        IS.due("1 without DIALS", NONE, () -> none.ofElement(0, 7));
        Versorhall x = Houses.house(7, BLADES, 1, 1, 2, 3, 4);
        IS.due("0", NONE, () -> x.ofElement(0, 7));
        for (int u = 0; u < 16; u++) {
            int unit = u;
            x.set(0, unit, 6);
            int square = Integer.bitCount(unit) == 1 ? Integer.numberOfTrailingZeros(unit) + 1 : NONE;
            IS.due("UNIT " + unit + " alone", square, () -> x.ofElement(0, 7));
            x.set(0, unit, 0);
        }
        for (int generator = 1; generator < 16; generator *= 2) {
            x.set(0, generator, 1);
        }
        IS.due("all GENERATORS", (1 + 2 + 3 + 4) % 7, () -> x.ofElement(0, 7));
        for (int u : new int[] {0, 3, 5, 6, 7, 9, 10, 11, 12, 13, 14, 15}) {
            x.set(0, u, 1);
            IS.due("all GENERATORS and UNIT " + u, NONE, () -> x.ofElement(0, 7));
            x.set(0, u, 0);
        }
        IS.sentence("To MIRROR x by a VECTOR v with a SQUARE that is not 0");
        Versorhall y = Houses.full();
        IS.state("0 is no VECTOR", () -> y.mirror(8, 9, 9));
        IS.state("SQUARE 0", () -> y.mirror(7, 6, 7));
        IS.due("SQUARE 6", 2, () -> y.mirror(6, 4, 6));
    }

    private static void mirrors() {
        IS.sentence("An ALGEBRA of BLADES has a row of MIRRORS (at most 6; none at first)");
        Versorhall x = Houses.house(7, BLADES, 3, 1, 1);
        IS.due("none at first", 0, () -> x.ofAlgebra(0, 5));
        IS.sentence("The VERSOR is the product of all: the last one times ... times the first one (1 without any)");
        x.versor(2);
        text("without any", x, 2, "1e0");
        IS.sentence("To TURN x: it is MIRRORED by them, the first one first");
        fill(x, 0, 5, 1, 2, 3);
        x.turn(2, 0);
        text("without any", x, 2, "5e0+1e1+2e2+3e3");
        hangSix(x);
        IS.sentence("VECTORS as they were when they were HUNG");
        Versorhall y = Houses.house(7, BLADES, 2, 1, 1);
        fill(y, 0, 0, 2);
        y.hang(0);
        fill(y, 0, 0, 0, 3);
        y.hang(0);
        fill(y, 0, 1, 0, 0);
        y.versor(1);
        text("3 e2 times 2 e1", y, 1, "1e3");
        y.versor(0);
        y.versor(0);
        text("into the one that was HUNG", y, 0, "1e3");
    }

    private static void hangSix(Versorhall x) {
        IS.sentence("An ALGEBRA of BLADES has a row of MIRRORS (at most 6; none at first)");
        fill(x, 0, 0, 1, 0, 0);
        fill(x, 1, 0, 1, 1, 0);
        for (int count = 1; count <= 6; count++) {
            int want = count;
            IS.due("hang", want, () -> x.hang(want % 2));
        }
        IS.state("a seventh", () -> x.hang(0));
        IS.due("six", 6, () -> x.ofAlgebra(0, 5));
        IS.sentence("The VERSOR is the product of all: the last one times ... times the first one (1 without any)");
        x.versor(2);
        // (e1 (e1 + e2)) is 1 + e3; its third POWER, as e3 e3 is -1, is 1 + 3 e3 - 3 - e3.
        text("of six", x, 2, "5e0+2e3");
        IS.sentence("To TURN x: it is MIRRORED by them, the first one first");
        fill(x, 2, 0, 1, 0, 0);
        x.turn(2, 2);
        // By e1 + e2, then e1: e1 to -e2 to -e2, e2 to -e1 to e1. Three times: e1, -e2, -e1, e2.
        text("by six", x, 2, "1e2");
    }

    // ---- 4. Laws and maps

    private static void laws() {
        IS.sentence("LAWS: 0 i j = j i; 1 the GAP of i, j, k is 0");
        Versorhall x = Houses.house(7, DOUBLED, 0);
        for (int law = 0; law <= 3; law++) {
            int asked = law;
            IS.due("LAW " + law + " of UNIT 0 alone", NONE, () -> x.breaks(0, asked));
        }
        x.dial(0, 6);
        IS.due("LAW 0 of two UNITS", NONE, () -> x.breaks(0, 0));
        x.dial(0, 6);
        IS.due("LAW 0 of four UNITS, just broken", 256 + 2 * 16, () -> x.breaks(0, 0));
        IS.due("LAW 1 of four UNITS", NONE, () -> x.breaks(0, 1));
        x.dial(0, 6);
        IS.due("LAW 1 of eight UNITS, just broken", 256 + 2 * 16 + 4, () -> x.breaks(0, 1));
        IS.sentence("2 the GAPS of i, j, k and j, i, k together are 0, and those of i, j, k and i, k, j");
        IS.due("LAW 2 of eight UNITS", NONE, () -> x.breaks(0, 2));
        x.dial(0, 6);
        IS.due("LAW 2 of sixteen UNITS, just broken", 256 + 2 * 16 + 12, () -> x.breaks(0, 2));
        IS.sentence("3 the GAPS of i, j, k and k, j, i together are 0");
        IS.due("LAW 3 of sixteen UNITS", NONE, () -> x.breaks(0, 3));
        IS.sentence("The CENTRE is the set of UNITS that keep the LAW 0 with each UNIT");
        int[] doubled = {1, 3, 1, 1, 1};
        int[] blades = {1, 3, 1, 1 + 128, 1};
        for (int k = 0; k <= 4; k++) {
            int dials = k;
            IS.due("DOUBLED by " + k, doubled[k], () -> Houses.house(5, DOUBLED, 0, all(dials, 2)).ofAlgebra(0, 4));
            IS.due("BLADES by " + k, blades[k], () -> Houses.house(5, BLADES, 0, all(dials, 2)).ofAlgebra(0, 4));
        }
    }

    private static void forms() {
        IS.sentence("The FORM of an ALGEBRA with k DIALS: for a row of k numbers x the sum of each DIAL times x times x");
        Versorhall x = Houses.house(7, BLADES, 0);
        for (int n = 0; n < 7; n++) {
            int number = n;
            IS.due("without DIALS there is no row above 0", NONE, () -> x.row(0, number));
        }
        x.dial(0, 3);
        int[] ofOne = {NONE, NONE, NONE, 1, NONE, 2, 3};
        for (int n = 0; n < 7; n++) {
            int number = n;
            IS.due("with one DIAL", ofOne[number], () -> x.row(0, number));
        }
        IS.sentence("A row is told as a number to the base P, its first x being the greatest digit");
        Versorhall y = Houses.house(3, BLADES, 0, 1, 1);
        // By 3: 1 1 + 1 1 is 2; the first row with that is (1, 1), that is 4.
        IS.due("two digits", 4, () -> y.row(0, 2));
        Versorhall z = Houses.house(7, BLADES, 0, 3, 1);
        IS.due("the last x is the smallest digit", 1, () -> z.row(0, 1));
        // 3 x x + y y = 3: (0, y) has squares alone, 3 is none; so (1, 0).
        IS.due("the first x is the greatest digit", 7, () -> z.row(0, 3));
        Versorhall four = Houses.house(5, BLADES, 0, 1, 1, 1, 1);
        IS.due("of four DIALS", 2 * 1 + 5, () -> four.row(0, 0));
    }

    private static void matches() {
        IS.sentence("Two ALGEBRAS of BLADES with as many DIALS MATCH by an order of GENERATORS");
        Versorhall x = new Versorhall();
        Houses.ground(x, BLADES);
        Houses.ground(x, BLADES, 1);
        Houses.ground(x, BLADES, 1, 1);
        Houses.ground(x, DOUBLED);
        IS.due("none and none", 0, () -> x.match(0, 0));
        IS.due("one and none", NONE, () -> x.match(1, 0));
        IS.due("none and one", NONE, () -> x.match(0, 1));
        IS.due("one and two", NONE, () -> x.match(1, 2));
        IS.due("two and one", NONE, () -> x.match(2, 1));
        IS.due("none, but of DOUBLED", NONE, () -> x.match(0, 3));
        IS.due("DOUBLED, and none", NONE, () -> x.match(3, 0));
        IS.sentence("if the DIAL of each GENERATOR of the first one is that of the GENERATOR to which it goes, times a SCALE of its own times that SCALE (SCALE not 0)");
        for (int p : Houses.PRIMES) {
            for (int one = 1; one < p; one++) {
                scales(p, one);
            }
        }
    }

    /** One DIAL against each: the SCALE is the smallest root of their quotient. */
    private static void scales(int p, int one) {
        for (int other = 1; other < p; other++) {
            Versorhall x = Houses.house(p, BLADES, 0, one);
            Houses.ground(x, BLADES, other);
            int want = NONE;
            for (int scale = p - 1; scale > 0; scale--) {
                want = other * scale * scale % p == one ? scale : want;
            }
            IS.due("SCALE of " + one + " and " + other + " by " + p, want, () -> x.scaleOf(0, 1, 0));
            IS.due("match of " + one + " and " + other + " by " + p, want == NONE ? NONE : 0, () -> x.match(0, 1));
        }
    }

    // ---- 5. Leaning

    private static void leaning() {
        IS.sentence("A number is SIGNED: n, or n less P, if n is greater than P / 2 (rounded down)");
        for (int p : Houses.PRIMES) {
            Versorhall x = Houses.house(p, BLADES, 1, 1);
            for (int n = 0; n < p; n++) {
                x.set(0, 1, n);
                int signed = n <= p / 2 ? n : n - p;
                IS.due("SIGNED " + n + " by " + p, signed * 2 / 4.0, () -> x.lean(0));
            }
        }
        Versorhall x = Houses.house(7, BLADES, 1, 1, 1, 1, 1);
        IS.sentence("a quarter of the sum of each SIGNED number times (its UNIT and 1)");
        for (int u = 1; u < 16; u++) {
            int unit = u;
            x.set(0, unit, 1);
            IS.due("UNIT " + unit, (unit + 1) / 4.0, () -> x.lean(0));
            x.set(0, unit, 0);
        }
        remainders(x);
        IS.sentence("of a PLAIN one that with the other sign");
        double[] plain = {0.0, -0.25, -0.5, -0.75, 0.75, 0.5, 0.25};
        for (int n = 0; n < 7; n++) {
            x.set(0, 0, n);
            IS.due("PLAIN " + n, plain[n], () -> x.lean(0));
        }
        IS.sentence("A KNOCK is a clear() of an ALGEBRA without MIRRORS");
        Versorhall y = Houses.full();
        IS.due("one so far", 1, () -> y.many(6));
        y.clear(1);
        IS.due("with MIRRORS it is none", 1, () -> y.many(6));
        y.clear(1);
        IS.due("without any more it is one", 2, () -> y.many(6));
        IS.index("of no ALGEBRA", () -> y.clear(4));
        IS.due("which is none", 2, () -> y.many(6));
    }

    private static void remainders(Versorhall x) {
        IS.sentence("then the remainder of that quarter by 8 (with its sign)");
        // UNIT 15 twice is 32 quarters, -2 times is -32; UNIT 0 gives one more or less.
        x.set(0, 15, 2);
        IS.due("8", 0.0, () -> x.lean(0));
        x.set(0, 0, 1);
        IS.due("8.25", 0.25, () -> x.lean(0));
        x.set(0, 0, 6);
        IS.due("7.75", 7.75, () -> x.lean(0));
        x.set(0, 15, 5);
        IS.due("-8.25", -0.25, () -> x.lean(0));
        x.set(0, 0, 1);
        IS.due("-7.75", -7.75, () -> x.lean(0));
        IS.sentence("0 is always told as 0, not below it");
        x.set(0, 0, 0);
        IS.due("-8", 0.0, () -> x.lean(0));
        x.set(0, 15, 0);
        IS.due("of 0, which is PLAIN", 0.0, () -> x.lean(0));
        x.set(0, 0, 1);
        x.set(0, 1, 3);
        x.set(0, 6, 6);
        IS.due("1 and 6 less 7", 0.0, () -> x.lean(0));
        IS.sentence("then the remainder of that quarter by 8 (with its sign)");
        // All numbers 3: 3 * 136 quarters are 102, and 102 by 8 leaves 6; all 4, that is -3: -6.
        fill(x, 0, all(16, 3));
        IS.due("102", 6.0, () -> x.lean(0));
        fill(x, 0, all(16, 4));
        IS.due("-102", -6.0, () -> x.lean(0));
        fill(x, 0, all(16, 0));
    }
}
