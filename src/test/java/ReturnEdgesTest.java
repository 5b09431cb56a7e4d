import java.math.BigInteger;
import java.util.ArrayList;
import java.util.Arrays;
import java.util.List;
import java.util.function.Supplier;

/**
 * Each "Returns" of the document that has a boundary case (none, the least, the most, a tie, a wrap-around), quoted,
 * with a test of its own. What the calls refuse stands in RefusedCallsTest.
 */
public final class ReturnEdgesTest {
    private static final int DOUBLED = Houses.DOUBLED;
    private static final int BLADES = Houses.BLADES;
    private static final int NONE = -1;
    private static final String AS_ABOVE = "told is how many numbers of the result are not 0, if nothing else is said";
    private static final Answers IS = new Answers();

    public static void main(String[] args) {
        newObject();
        told();
        sizesOfResults();
        otherResults();
        sizesByMirrors();
        hangAndClear();
        at();
        ofElement();
        orders();
        text();
        ofAlgebra();
        sign();
        breaks();
        means();
        poise();
        many();
        apart();
        row();
        match();
        scaleOf();
        digest();
        IS.end();
    }

    private static int[] all(int units, int number) {
        int[] numbers = new int[units];
        Arrays.fill(numbers, number);
        return numbers;
    }

    private static Versorhall house(int prime, int kind, int elements, int... dials) {
        return Houses.house(prime, kind, elements, dials);
    }

    private static void fill(Versorhall x, int element, int... numbers) {
        Houses.fill(x, element, numbers);
    }

    // ---- 1 to 6

    private static void newObject() {
        IS.sentence("1: Creates a house without ALGEBRAS");
        Versorhall x = new Versorhall();
        int[] wants = {7, 0, 0, 0, 0, 0, 0, 0};
        for (int asked = 0; asked <= 7; asked++) {
            int what = asked;
            IS.due("many " + what, wants[what], () -> x.many(what));
        }
        Houses.full();
        Versorhall other = new Versorhall();
        IS.due("a full one beside it", 0, () -> other.many(1) + x.many(1));
        IS.due("P of a new one", 7, () -> new Versorhall().prime(3) + other.prime(7) - 7);
    }

    private static void told() {
        IS.sentence("2: Returns P before");
        Versorhall x = new Versorhall();
        IS.due("7 at first, then the same", 7, () -> x.prime(7));
        IS.due("the greatest, then the smallest", 7, () -> x.prime(3));
        IS.due("the smallest, then the greatest", 3, () -> x.prime(7));
        IS.due("back", 7, () -> x.prime(5));
        IS.argument("a refused one is not before", () -> x.prime(4));
        IS.due("5", 5, () -> x.prime(5));
        IS.sentence("3: Returns its number");
        for (int number = 0; number < 4; number++) {
            int want = number;
            IS.argument("a refused one has none", () -> x.algebra(2));
            IS.due("algebra", want, () -> x.algebra(1 - want % 2));
        }
        IS.sentence("4: Returns how many UNITS there are then");
        for (int units = 2; units <= 16; units *= 2) {
            int want = units;
            IS.due("of DOUBLED", want, () -> x.dial(1, 4));
            IS.due("of BLADES", want, () -> x.dial(2, 1));
        }
        IS.sentence("5: Returns its number");
        for (int number = 0; number < 10; number++) {
            int want = number;
            IS.index("a refused one has none", () -> x.element(4));
            IS.due("element", want, () -> x.element(want % 4));
        }
        IS.sentence("6: Returns that before");
        IS.due("0 at first", 0, () -> x.set(9, 15, 4));
        IS.due("4", 4, () -> x.set(9, 15, 0));
        IS.argument("a refused one is not before", () -> x.set(9, 15, 5));
        IS.due("0", 0, () -> x.set(9, 15, 1));
        IS.due("of another ELEMENT", 0, () -> x.set(5, 15, 1));
    }

    // ---- 7 to 20

    /** ELEMENTS of 16 UNITS: 0 is all 1, 1 is all -1, 2 and 3 are 0. */
    private static Versorhall ones(int kind) {
        Versorhall x = house(7, kind, 6, 1, 6, 1, 6);
        fill(x, 0, all(16, 1));
        fill(x, 1, all(16, 6));
        return x;
    }

    private static void sizesOfResults() {
        for (int kind : new int[] {DOUBLED, BLADES}) {
            Versorhall x = ones(kind);
            IS.sentence("7: " + AS_ABOVE + ", of their sum");
            IS.due("none, all go round to 0", 0, () -> x.sum(4, 0, 1));
            IS.due("none, of 0 and 0", 0, () -> x.sum(4, 2, 3));
            IS.due("all", 16, () -> x.sum(4, 0, 0));
            IS.sentence("8: " + AS_ABOVE + ", of their product");
            IS.due("none, times 0", 0, () -> x.product(4, 0, 2));
            IS.due("none, 0 times", 0, () -> x.product(4, 2, 0));
            x.set(5, 0, 6);
            IS.due("all, times -1", 16, () -> x.product(4, 0, 5));
            // (1 + e1)(1 - e1) is 1 - 1, as the first DIAL is 1.
            fill(x, 4, Arrays.copyOf(new int[] {1, 1}, 16));
            fill(x, 5, 1, 6);
            IS.due("none, of two that are not 0", 0, () -> x.product(3, 4, 5));
            IS.sentence("9: " + AS_ABOVE + ", of the multiple");
            IS.due("0 times", 0, () -> x.scale(4, 0, 0));
            IS.due("times 1", 16, () -> x.scale(4, 0, 1));
            IS.due("times P less 1", 16, () -> x.scale(4, 0, 6));
            IS.due("of 0", 0, () -> x.scale(4, 2, 6));
            IS.sentence("10: " + AS_ABOVE + ", of its CONJUGATE");
            IS.due("of 0", 0, () -> x.conjugate(4, 2));
            IS.due("of all", 16, () -> x.conjugate(4, 0));
            IS.sentence("11: " + AS_ABOVE + ", of that");
            IS.due("0^0", 1, () -> x.power(4, 2, 0));
            IS.due("0^1", 0, () -> x.power(4, 2, 1));
            IS.due("0^60", 0, () -> x.power(4, 2, 60));
            IS.due("x^0", 1, () -> x.power(4, 0, 0));
            IS.due("x^1", 16, () -> x.power(4, 0, 1));
            IS.sentence("20: " + AS_ABOVE + ", of the result of that");
            IS.due("of all", 16, () -> x.run(4, 0));
            IS.due("of none, all go round to 0", 0, () -> x.run(4, 610));
            IS.due("of none, less itself", 0, () -> x.run(4, 800));
        }
    }

    private static void otherResults() {
        IS.sentence("12: " + AS_ABOVE + ", of its INVERSE");
        Versorhall x = house(7, DOUBLED, 3, 6, 6, 6);
        fill(x, 0, 4);
        IS.due("the least", 1, () -> x.invert(1, 0));
        IS.due("of 4", "2e0", () -> x.text(1));
        fill(x, 0, 1, 1, 1, 1, 1, 1, 1, 2);
        // NORM 7 + 4 is 4.
        IS.due("the most", 8, () -> x.invert(1, 0));
        x.product(2, 0, 1);
        IS.due("times it", "1e0", () -> x.text(2));
        IS.sentence("13: " + AS_ABOVE + ", of its SERIES");
        Versorhall y = house(5, BLADES, 3, 1, 4, 1, 4);
        IS.due("of 0", 1, () -> y.series(1, 0));
        fill(y, 0, 0, 1, 1);
        IS.due("of e1 + e2", 3, () -> y.series(1, 0));
        IS.sentence("14: Returns the greatest UNIT with a number that is not 0 in its KILLER");
        IS.due("the smallest of all", 0, () -> y.killer(1, 2));
        Versorhall z = house(3, BLADES, 2, 1);
        fill(z, 0, 1, 1);
        IS.due("the greatest of all", 1, () -> z.killer(1, 0));
        Versorhall w = house(7, DOUBLED, 2, 6, 6, 6, 6);
        w.set(0, 1, 1);
        w.set(0, 10, 1);
        int told = w.killer(1, 0);
        IS.due("of sixteen UNITS: the number there", 1, () -> w.at(1, told));
        for (int u = told + 1; u < 16; u++) {
            int unit = u;
            IS.due("of sixteen UNITS: none above, as " + unit, 0, () -> w.at(1, unit));
        }
        w.product(1, 0, 1);
        IS.due("of sixteen UNITS: it kills", "0", () -> w.text(1));
    }

    private static void sizesByMirrors() {
        Versorhall x = ones(BLADES);
        x.set(5, 8, 1);
        IS.sentence("17: " + AS_ABOVE + ", of that MIRRORED by the VECTOR");
        IS.due("of 0", 0, () -> x.mirror(4, 5, 2));
        IS.due("of all", 16, () -> x.mirror(4, 5, 0));
        IS.sentence("18: " + AS_ABOVE + ", of that TURNED");
        IS.due("of 0 without MIRRORS", 0, () -> x.turn(4, 2));
        IS.due("of all without MIRRORS", 16, () -> x.turn(4, 0));
        IS.sentence("19: " + AS_ABOVE + ", of the VERSOR of its ALGEBRA");
        IS.due("without MIRRORS", 1, () -> x.versor(4));
        x.hang(5);
        IS.due("of one", 1, () -> x.versor(4));
        IS.due("of one", "1e8", () -> x.text(4));
        IS.sentence("18: " + AS_ABOVE + ", of that TURNED");
        IS.due("of 0 by one", 0, () -> x.turn(4, 2));
        IS.due("of all by one", 16, () -> x.turn(4, 0));
    }

    private static void hangAndClear() {
        Versorhall x = house(7, BLADES, 1, 1);
        x.set(0, 1, 1);
        IS.sentence("16: Returns how many there were");
        IS.due("none", 0, () -> x.clear(0));
        IS.sentence("15: Returns how many MIRRORS that has then");
        for (int count = 1; count <= 6; count++) {
            int want = count;
            IS.due("hang", want, () -> x.hang(0));
        }
        IS.sentence("16: Returns how many there were");
        IS.due("six", 6, () -> x.clear(0));
        IS.due("none again", 0, () -> x.clear(0));
        IS.sentence("15: Returns how many MIRRORS that has then");
        IS.due("the first one again", 1, () -> x.hang(0));
        IS.sentence("16: Takes all MIRRORS of an ALGEBRA away");
        Versorhall y = Houses.full();
        IS.due("of 2", 6, () -> y.clear(2));
        IS.due("of 2 there are none", 0, () -> y.ofAlgebra(2, 5));
        IS.due("of 1 they stay", 2, () -> y.ofAlgebra(1, 5));
        y.versor(9);
        IS.due("the VERSOR is 1 again", "1e0", () -> y.text(9));
    }

    // ---- 21 to 26

    private static void at() {
        IS.sentence("21: Returns its number");
        Versorhall x = house(7, BLADES, 10, 1, 1, 1, 1);
        x.set(9, 0, 6);
        x.set(9, 15, 5);
        IS.due("the first UNIT", 6, () -> x.at(9, 0));
        IS.due("the last UNIT of the last ELEMENT", 5, () -> x.at(9, 15));
        IS.due("between", 0, () -> x.at(9, 14));
        IS.due("of another ELEMENT", 0, () -> x.at(8, 15));
    }

    private static void ofElement(String told, Versorhall x, int element, int what, int want) {
        IS.due(told, want, () -> x.ofElement(element, what));
    }

    private static void ofElement() {
        Versorhall x = Houses.full();
        IS.sentence("22: 0 its ALGEBRA");
        ofElement("the first one", x, 0, 0, 0);
        ofElement("the last one", x, 9, 0, 2);
        IS.sentence("22: 1 how many numbers are not 0");
        ofElement("none", x, 3, 1, 0);
        ofElement("all", x, 0, 1, 8);
        IS.sentence("22: 2 its NORM");
        ofElement("of 0", x, 3, 2, 0);
        // 1 + 4 + 9 + 16 + 25 + 36 + 1 + 4 is 96, which is 5.
        ofElement("of one that goes round", x, 0, 2, 5);
        ofElement("0, of one that is not 0", x, 6, 2, 0);
        IS.sentence("22: 3 1 if it is PLAIN, otherwise 0");
        ofElement("0", x, 3, 3, 1);
        ofElement("UNIT 0 alone", x, 2, 3, 1);
        ofElement("another UNIT alone", x, 8, 3, 0);
        IS.sentence("22: 6 1 if its product with itself is itself, otherwise 0");
        ofElement("0", x, 3, 6, 1);
        x.set(2, 0, 1);
        ofElement("1", x, 2, 6, 1);
        x.set(2, 0, 6);
        ofElement("-1", x, 2, 6, 0);
        Versorhall y = house(7, BLADES, 1, 1);
        fill(y, 0, 4, 4);
        ofElement("1 / 2 + 1 / 2 e1", y, 0, 6, 1);
        fill(y, 0, 4, 3);
        ofElement("1 / 2 - 1 / 2 e1", y, 0, 6, 1);
        fill(y, 0, 4, 2);
        ofElement("1 / 2 + 2 e1", y, 0, 6, 0);
        IS.sentence("22: 7 the SQUARE of a VECTOR (NONE, if it is none)");
        ofElement("0, that is not NONE", x, 6, 7, 0);
        ofElement("0 is no VECTOR", x, 9, 7, NONE);
        ofElement("of DOUBLED", x, 1, 7, NONE);
        ofElement("3 * 4", x, 8, 7, 5);
        IS.sentence("22: 8 the rank of y to x y, 9 that of y to y x");
        int[][] ranks = {{3, 0}, {2, 8}, {9, 0}, {8, 2}, {6, 4}};
        for (int[] rank : ranks) {
            ofElement("the rank of " + rank[0], x, rank[0], 8, rank[1]);
            ofElement("the other rank of " + rank[0], x, rank[0], 9, rank[1]);
        }
        Versorhall z = house(7, DOUBLED, 1, 6, 6, 6, 6);
        z.set(0, 5, 1);
        ofElement("the greatest rank of all", z, 0, 8, 16);
        ofElement("the greatest rank of all", z, 0, 9, 16);
    }

    private static void put(Versorhall x, int element, int... unitsAndNumbers) {
        for (int place = 0; place < unitsAndNumbers.length; place += 2) {
            x.set(element, unitsAndNumbers[place], unitsAndNumbers[place + 1]);
        }
    }

    private static void orders() {
        IS.sentence("22: 4 the smallest n from 1 to 60 whose POWER is 1 (NONE)");
        Versorhall x = house(5, BLADES, 3, 1, 4, 1, 4);
        ofElement("of 0", x, 0, 4, NONE);
        x.set(0, 0, 1);
        ofElement("of 1", x, 0, 4, 1);
        x.set(0, 0, 4);
        ofElement("of -1", x, 0, 4, 2);
        put(x, 1, 0, 4, 5, 2, 6, 3, 14, 3);
        for (int power : new int[] {12, 20, 30}) {
            x.power(2, 1, power);
            IS.due("POWER " + power + " is not 1", false, () -> x.text(2).equals("1e0"));
        }
        ofElement("the most, 60", x, 1, 4, 60);
        Versorhall y = house(5, BLADES, 3, 1, 4, 1, 4);
        put(y, 0, 6, 1, 8, 1, 12, 4, 13, 4, 14, 2);
        y.power(1, 0, 31);
        IS.due("POWER 31 is not 1", false, () -> y.text(1).equals("1e0"));
        y.product(1, 1, 1);
        IS.due("POWER 62 is 1", "1e0", () -> y.text(1));
        ofElement("above 60", y, 0, 4, NONE);
        IS.sentence("22: 5 the smallest n from 1 to P whose POWER is 0 (NONE)");
        ofElement("of 0", y, 2, 5, 1);
        ofElement("of one with an INVERSE", y, 0, 5, NONE);
        Versorhall three = house(3, BLADES, 2, 1, 2, 1, 2);
        put(three, 0, 1, 1, 2, 1);
        ofElement("2", three, 0, 5, 2);
        put(three, 0, 1, 0, 2, 0, 5, 2, 6, 1, 7, 1, 8, 1);
        ofElement("the most, P", three, 0, 5, 3);
        put(three, 1, 6, 2, 8, 2, 11, 2, 12, 2);
        ofElement("P and 1", three, 1, 5, NONE);
        three.power(1, 1, 4);
        IS.due("which is 0 then", "0", () -> three.text(1));
    }

    private static void text() {
        IS.sentence("23: \"0\" without any (3e0+1e2)");
        Versorhall x = house(7, BLADES, 1, 1, 1, 1, 1);
        IS.due("none", "0", () -> x.text(0));
        x.set(0, 0, 3);
        IS.due("the first alone", "3e0", () -> x.text(0));
        x.set(0, 2, 1);
        IS.due("the document's own", "3e0+1e2", () -> x.text(0));
        IS.sentence("23: with \"+\" between");
        fill(x, 0, all(16, 6));
        IS.due("all", "6e0+6e1+6e2+6e3+6e4+6e5+6e6+6e7+6e8+6e9+6e10+6e11+6e12+6e13+6e14+6e15", () -> x.text(0));
        fill(x, 0, all(15, 0));
        IS.due("the last alone", "6e15", () -> x.text(0));
        x.set(0, 15, 0);
        IS.due("none any more", "0", () -> x.text(0));
    }

    private static void ofAlgebra(String told, Versorhall x, int algebra, int what, int want) {
        IS.due(told, want, () -> x.ofAlgebra(algebra, what));
    }

    private static void ofAlgebra() {
        Versorhall x = house(7, BLADES, 0);
        x.algebra(DOUBLED);
        IS.sentence("24: 0 its KIND");
        ofAlgebra("BLADES", x, 0, 0, 1);
        ofAlgebra("DOUBLED", x, 1, 0, 0);
        for (int dials = 0; dials <= 4; dials++) {
            IS.sentence("24: 1 how many DIALS, 2 how many UNITS");
            ofAlgebra("DIALS", x, 0, 1, dials);
            ofAlgebra("UNITS", x, 0, 2, 1 << dials);
            IS.sentence("24: 4 its CENTRE");
            ofAlgebra("of " + dials + " DIALS", x, 0, 4, new int[] {1, 3, 1, 129, 1}[dials]);
            if (dials < 4) {
                x.dial(0, 2);
            }
        }
        IS.sentence("24: 3 how many ELEMENTS are of it");
        for (int count = 0; count <= 10; count++) {
            ofAlgebra("of the one", x, 0, 3, count);
            ofAlgebra("of the other", x, 1, 3, 0);
            if (count < 10) {
                x.element(0);
            }
        }
        IS.sentence("24: 5 how many MIRRORS");
        x.set(0, 8, 1);
        for (int count = 0; count <= 6; count++) {
            ofAlgebra("of BLADES", x, 0, 5, count);
            if (count < 6) {
                x.hang(0);
            }
        }
        ofAlgebra("of DOUBLED", x, 1, 5, 0);
    }

    private static void sign() {
        IS.sentence("25: Returns the SIGN of their product");
        for (int p : Houses.PRIMES) {
            for (int kind : new int[] {DOUBLED, BLADES}) {
                for (int g = 1; g < p; g++) {
                    int dial = g;
                    Versorhall x = house(p, kind, 0, dial, dial);
                    IS.due("-1 is told as P less 1", p - 1, () -> x.sign(0, 2, 1));
                    IS.due("UNIT 1 twice", dial, () -> x.sign(0, 1, 1));
                    // BLADES: e1 e2 e1 e2 is -g g; DOUBLED: (0, i)(0, i) is (g i' i, 0), which is -g g too.
                    IS.due("UNIT 3 twice goes round", (p * p - dial * dial) % p, () -> x.sign(0, 3, 3));
                }
            }
        }
    }

    private static void breaks() {
        IS.sentence("26: the smallest 256 times i, 16 times j, and k (0 for the LAW 0), together, for which it does not hold");
        Versorhall x = house(7, DOUBLED, 0, 6, 6, 6, 6);
        int[] wants = {288, 292, 300, NONE};
        for (int asked = 0; asked <= 3; asked++) {
            int law = asked;
            IS.due("LAW " + law, wants[law], () -> x.breaks(0, law));
            IS.due("LAW " + law + " again", wants[law], () -> x.breaks(0, law));
        }
        IS.sentence("26: NONE, if it holds for all UNITS");
        Versorhall y = house(7, DOUBLED, 0);
        int[][] byDials = {{NONE, NONE, NONE, NONE}, {NONE, NONE, NONE, NONE}, {288, NONE, NONE, NONE}, {288, 292, NONE, NONE}, wants};
        for (int dials = 0; dials <= 4; dials++) {
            int[] due = byDials[dials];
            for (int asked = 0; asked <= 3; asked++) {
                int law = asked;
                IS.due("LAW " + law + " of " + dials + " DIALS", due[law], () -> y.breaks(0, law));
            }
            if (dials < 4) {
                y.dial(0, 1 + dials);
            }
        }
        Versorhall z = house(7, BLADES, 0, 1, 2, 3, 4);
        for (int asked = 1; asked <= 3; asked++) {
            int law = asked;
            IS.due("LAW " + law + " of BLADES", NONE, () -> z.breaks(0, law));
        }
    }

    // ---- 27 to 30

    private static void means() {
        IS.sentence("27: Returns the mean of how many numbers of each ELEMENT are not 0, not cut; 0 without any");
        IS.due("without any", 0.0, () -> new Versorhall().meanSize());
        Versorhall x = house(7, BLADES, 0, 1, 1, 1, 1);
        IS.due("without ELEMENTS", 0.0, () -> x.meanSize());
        x.element(0);
        IS.due("of 0", 0.0, () -> x.meanSize());
        fill(x, 0, all(16, 3));
        IS.due("of all", 16.0, () -> x.meanSize());
        for (int count = 2; count <= 10; count++) {
            double want = 16.0 / count;
            x.element(0);
            IS.due("of all and 0, " + count, want, () -> x.meanSize());
        }
        fill(x, 9, all(16, 1));
        x.set(9, 0, 0);
        IS.due("just below a whole", 3.1, () -> x.meanSize());
        IS.sentence("28: Returns its LEAN");
        Versorhall y = house(7, BLADES, 2, 1, 1, 1, 1);
        put(y, 0, 15, 2, 0, 6);
        IS.due("the greatest", 7.75, () -> y.lean(0));
        put(y, 0, 15, 5, 0, 1);
        IS.due("the smallest", -7.75, () -> y.lean(0));
        IS.due("0, not below it", 0.0, () -> y.lean(1));
    }

    /** Makes the LEAN of an ELEMENT (of two UNITS) that many halves, -3 to 3. */
    private static void halves(Versorhall x, int element, int halves) {
        x.set(element, 1, Math.floorMod(halves, 7));
    }

    private static void poise() {
        IS.sentence("29: 0 without any");
        IS.due("a new house", 0.0, () -> new Versorhall().poise());
        IS.due("no ELEMENTS", 0.0, () -> house(7, BLADES, 0, 1).poise());
        IS.sentence("29: to the nearest whole (of a half to the even one; 0.0, never -0.0)");
        Versorhall x = house(7, BLADES, 1, 1);
        double[] ofHalves = {-2.0, -1.0, 0.0, 0.0, 0.0, 1.0, 2.0};
        for (int n = -3; n <= 3; n++) {
            halves(x, 0, n);
            IS.due("of " + n + " halves", ofHalves[n + 3], () -> x.poise());
        }
        // UNIT 0 has one quarter: 1.75 and -1.75, 0.25 and -0.25.
        put(x, 0, 0, 1, 1, 3);
        IS.due("of 1.75", 2.0, () -> x.poise());
        put(x, 0, 0, 6, 1, 4);
        IS.due("of -1.75", -2.0, () -> x.poise());
        put(x, 0, 0, 1, 1, 0);
        IS.due("of -0.25", 0.0, () -> x.poise());
        put(x, 0, 0, 6, 1, 0);
        IS.due("of 0.25", 0.0, () -> x.poise());
        put(x, 0, 0, 3, 1, 0);
        IS.due("of -0.75", -1.0, () -> x.poise());
        put(x, 0, 0, 4, 1, 0);
        IS.due("of 0.75", 1.0, () -> x.poise());
        put(x, 0, 0, 3, 1, 1);
        IS.due("of 1.25", 1.0, () -> x.poise());
        put(x, 0, 0, 4, 1, 6);
        IS.due("of -1.25", -1.0, () -> x.poise());
        wideHalves();
        IS.sentence("29: Returns the mean LEAN of all ELEMENTS");
        Versorhall y = house(7, BLADES, 10, 1);
        for (int element = 0; element < 10; element++) {
            halves(y, element, 1);
        }
        IS.due("ten halves, by ten", 0.0, () -> y.poise());
        halves(y, 9, 2);
        IS.due("eleven halves, by ten", 1.0, () -> y.poise());
        for (int element = 0; element < 10; element++) {
            halves(y, element, 3);
        }
        IS.due("thirty halves, by ten", 2.0, () -> y.poise());
        halves(y, 0, -3);
        IS.due("twenty-four halves, by ten", 1.0, () -> y.poise());
    }

    /** Halves from -7.5 to 7.5: each goes to the even one. */
    private static void wideHalves() {
        Versorhall x = house(7, BLADES, 1, 1, 1, 1, 1);
        double[] even = {0.0, 2.0, 2.0, 4.0, 4.0, 6.0, 6.0, 8.0};
        for (int whole = 0; whole <= 7; whole++) {
            fill(x, 0, all(16, 0));
            // 2 quarters and 4 for each whole: UNIT u has u and 1 quarters. 30 = 2 * 15, the others below 16 or 2 * 11, 2 * 13.
            int quarters = 2 + 4 * whole;
            int times = quarters > 16 ? 2 : 1;
            int unit = quarters / times - 1;
            double want = even[whole];
            x.set(0, unit, times);
            IS.due("of " + whole + ".5", want, () -> x.poise());
            x.set(0, unit, 7 - times);
            IS.due("of -" + whole + ".5", want == 0.0 ? 0.0 : -want, () -> x.poise());
        }
    }

    private static void many(String told, Versorhall x, int what, int want) {
        IS.due(told, want, () -> x.many(what));
    }

    private static void many() {
        Versorhall none = house(3, DOUBLED, 0);
        IS.sentence("30: 0 P");
        many("3", none, 0, 3);
        many("7", Houses.full(), 0, 7);
        IS.sentence("30: 1 ALGEBRAS, 2 ELEMENTS");
        many("none", new Versorhall(), 1, 0);
        many("all", Houses.full(), 1, 4);
        many("none", none, 2, 0);
        many("all", Houses.full(), 2, 10);
        IS.sentence("30: 3 all UNITS");
        many("none", new Versorhall(), 3, 0);
        many("1", none, 3, 1);
        Versorhall most = new Versorhall();
        for (int kind = 0; kind < 4; kind++) {
            Houses.ground(most, kind % 2, 1, 2, 3, 4);
        }
        many("all", most, 3, 64);
        IS.sentence("30: 4 how many of the ELEMENTS are PLAIN, 5 how many have a NORM of 0");
        many("without ELEMENTS", most, 4, 0);
        many("without ELEMENTS", most, 5, 0);
        for (int element = 0; element < 10; element++) {
            most.element(element % 4);
        }
        many("all are 0", most, 4, 10);
        many("all are 0", most, 5, 10);
        for (int element = 0; element < 10; element++) {
            most.set(element, 1, 1);
        }
        many("none", most, 4, 0);
        many("none", most, 5, 0);
        IS.sentence("30: 6 KNOCKS ever");
        many("none", most, 6, 0);
        most.clear(0);
        most.clear(0);
        most.clear(3);
        many("three", most, 6, 3);
        sumOfLeans();
    }

    private static void sumOfLeans() {
        IS.sentence("30: 7 the sum of all LEANS without what is behind its point");
        many("without ELEMENTS", house(7, BLADES, 0), 7, 0);
        Versorhall x = house(7, BLADES, 2, 1);
        int[] cut = {-3, -2, -2, -1, -1, 0, 0, 0, 1, 1, 2, 2, 3};
        for (int n = -6; n <= 6; n++) {
            halves(x, 0, n / 2);
            halves(x, 1, n - n / 2);
            many("of " + n + " halves", x, 7, cut[n + 6]);
        }
        put(x, 0, 0, 1, 1, 3);
        put(x, 1, 0, 0, 1, 0);
        many("of 1.75", x, 7, 1);
        put(x, 0, 0, 6, 1, 4);
        many("of -1.75", x, 7, -1);
        Versorhall y = house(7, BLADES, 10, 1, 1, 1, 1);
        for (int element = 0; element < 10; element++) {
            put(y, element, 15, 2, 0, 6);
        }
        many("the most, ten times 7.75", y, 7, 77);
        for (int element = 0; element < 10; element++) {
            put(y, element, 15, 5, 0, 1);
        }
        many("the least, ten times -7.75", y, 7, -77);
    }

    // ---- 31 to 35

    private static void apart() {
        IS.sentence("31: Returns how many numbers of their product, less the product the other way round, would not be 0");
        Versorhall x = house(7, BLADES, 3, 1, 1, 1, 1);
        fill(x, 0, all(16, 1));
        IS.due("of itself", 0, () -> x.apart(0, 0));
        IS.due("with 0", 0, () -> x.apart(0, 1));
        x.set(1, 0, 3);
        IS.due("with a number", 0, () -> x.apart(0, 1));
        put(x, 1, 0, 0, 15, 1);
        // e15 passes UNITS of 0, 2 and 4 GENERATORS and changes the sign of 1 and 3.
        IS.due("with the greatest UNIT", 8, () -> x.apart(0, 1));
        IS.due("the other way round", 8, () -> x.apart(1, 0));
        IS.sentence("---- what would be (nothing is changed)");
        IS.due("the one", "1e15", () -> x.text(1));
        IS.due("the other", 16, () -> x.ofElement(0, 1));
        IS.due("a third", "0", () -> x.text(2));
    }

    private static void row() {
        IS.sentence("32: Returns the smallest row above 0 for which its FORM is that number; NONE without one");
        Versorhall x = house(3, BLADES, 0);
        IS.due("no row without DIALS", NONE, () -> x.row(0, 0));
        IS.due("no row without DIALS", NONE, () -> x.row(0, 1));
        x.dial(0, 2);
        IS.due("only the row 0 is 0", NONE, () -> x.row(0, 0));
        IS.due("none is 1", NONE, () -> x.row(0, 1));
        IS.due("the smallest above 0", 1, () -> x.row(0, 2));
        x.dial(0, 1);
        // 2 x x + y y: (0, 1) is 1, (1, 0) is 2, (1, 1) is 0.
        IS.due("0", 4, () -> x.row(0, 0));
        IS.due("1", 1, () -> x.row(0, 1));
        IS.due("2", 3, () -> x.row(0, 2));
        for (int p : Houses.PRIMES) {
            lastRows(p);
        }
        Versorhall d = house(7, DOUBLED, 0, 3);
        IS.due("of DOUBLED too", 1, () -> d.row(0, 3));
    }

    /** With one DIAL 1 the rows are 1 to P less 1, and the squares come up to the row of half of them. */
    private static void lastRows(int p) {
        Versorhall x = house(p, BLADES, 0, 1);
        for (int n = 0; n < p; n++) {
            int number = n;
            int want = NONE;
            for (int row = p - 1; row > 0; row--) {
                want = row * row % p == number ? row : want;
            }
            int smallest = want;
            IS.due("row of " + number + " by " + p, smallest, () -> x.row(0, number));
        }
    }

    private static void match() {
        IS.sentence("33: Returns the smallest order by which they MATCH");
        Versorhall x = new Versorhall();
        Houses.ground(x, BLADES, 1, 2, 4, 1);
        Houses.ground(x, BLADES, 3, 3, 1, 1);
        Houses.ground(x, BLADES, 1, 3, 1, 3);
        Houses.ground(x, BLADES, 3, 5, 6, 6);
        IS.due("all orders are right: the smallest", 123, () -> x.match(0, 0));
        IS.due("to the last ones first", 2031, () -> x.match(2, 1));
        IS.due("the other way", 1302, () -> x.match(1, 2));
        IS.due("all that are no squares", 123, () -> x.match(3, 3));
        IS.sentence("33: NONE, if they do not, or one is not of BLADES");
        IS.due("squares and none", NONE, () -> x.match(0, 3));
        IS.due("four squares and two", NONE, () -> x.match(0, 1));
        Versorhall y = new Versorhall();
        Houses.ground(y, BLADES, 1);
        Houses.ground(y, DOUBLED, 1);
        Houses.ground(y, DOUBLED);
        Houses.ground(y, BLADES);
        IS.due("the other is not", NONE, () -> y.match(0, 1));
        IS.due("the one is not", NONE, () -> y.match(1, 0));
        IS.due("both are not", NONE, () -> y.match(1, 1));
        IS.due("both are not, without DIALS", NONE, () -> y.match(2, 2));
        IS.due("as many DIALS are asked", NONE, () -> y.match(0, 3));
        IS.sentence("33: (0, if both are of BLADES and have no DIALS)");
        IS.due("without DIALS", 0, () -> y.match(3, 3));
        IS.due("one is DOUBLED", NONE, () -> y.match(3, 2));
        IS.due("with one", 0, () -> y.match(0, 0));
    }

    private static void scaleOf() {
        IS.sentence("34: Returns its smallest SCALE by that order");
        Versorhall x = new Versorhall();
        Houses.ground(x, BLADES, 1, 3, 1, 3);
        Houses.ground(x, BLADES, 3, 5, 2, 4);
        Houses.ground(x, BLADES, 3, 5, 5, 4);
        Houses.ground(x, BLADES);
        // The order is 2031: 1 is 2 * 2 * 2, 3 is 3 * 1 * 1, 1 is 4 * 3 * 3 (or 4 * 4 * 4), 3 is 5 * 3 * 3.
        int[] wants = {2, 1, 3, 3};
        for (int g = 0; g < 4; g++) {
            int generator = g;
            IS.due("GENERATOR " + generator, wants[generator], () -> x.scaleOf(0, 1, generator));
            IS.due("GENERATOR " + generator + " to itself", 1, () -> x.scaleOf(0, 0, generator));
        }
        IS.sentence("34: NONE, if there is no such GENERATOR, or order");
        for (int generator : new int[] {-1, 4, Integer.MIN_VALUE, Integer.MAX_VALUE}) {
            IS.due("GENERATOR " + generator, NONE, () -> x.scaleOf(0, 1, generator));
        }
        for (int g = 0; g < 4; g++) {
            int generator = g;
            IS.due("no order", NONE, () -> x.scaleOf(0, 2, generator));
            IS.due("not as many DIALS", NONE, () -> x.scaleOf(0, 3, generator));
            IS.due("without DIALS", NONE, () -> x.scaleOf(3, 3, generator));
        }
        Versorhall y = house(7, DOUBLED, 0, 1, 2);
        Houses.ground(y, BLADES, 1, 2);
        IS.due("not of BLADES", NONE, () -> y.scaleOf(0, 0, 0));
        IS.due("the one is not of BLADES", NONE, () -> y.scaleOf(0, 1, 0));
        IS.due("the other is not of BLADES", NONE, () -> y.scaleOf(1, 0, 0));
    }

    /** The checksum from its definition: what the calls answer, and no int or long that could cut it elsewhere. */
    private static long digestOf(Supplier<Versorhall> house) {
        List<Integer> numbers = new ArrayList<>();
        Versorhall x = house.get();
        int algebras = x.many(1);
        int elements = x.many(2);
        for (int what = 0; what <= 7; what++) {
            numbers.add(x.many(what));
        }
        for (int algebra = 0; algebra < algebras; algebra++) {
            for (int what = 0; what <= 5; what++) {
                numbers.add(x.ofAlgebra(algebra, what));
            }
            for (int law = 0; law <= 3; law++) {
                numbers.add(x.breaks(algebra, law));
            }
            numbers.add(x.row(algebra, 0));
            numbers.add(x.row(algebra, 1));
            for (int other = 0; other < algebras; other++) {
                numbers.add(x.match(algebra, other));
            }
        }
        for (int element = 0; element < elements; element++) {
            // One object for all would be asked more than 512 calls.
            numbersOf(house.get(), element, numbers);
        }
        BigInteger d = BigInteger.valueOf(58236);
        for (int number : numbers) {
            d = d.multiply(BigInteger.valueOf(31)).add(BigInteger.valueOf(number));
        }
        BigInteger turns = BigInteger.ONE.shiftLeft(64);
        BigInteger rest = d.mod(turns);
        return (rest.testBit(63) ? rest.subtract(turns) : rest).longValueExact();
    }

    private static void numbersOf(Versorhall x, int element, List<Integer> numbers) {
        int units = x.ofAlgebra(x.ofElement(element, 0), 2);
        for (int unit = 0; unit < units; unit++) {
            numbers.add(x.at(element, unit));
        }
        for (int what = 0; what <= 9; what++) {
            numbers.add(x.ofElement(element, what));
        }
        numbers.add(x.text(element).length());
    }

    private static void digest(String told, Supplier<Versorhall> house) {
        long want = digestOf(house);
        Versorhall x = house.get();
        IS.due(told, want, () -> x.digest());
        IS.due(told + ", again", want, () -> x.digest());
    }

    private static void digest() {
        IS.sentence("35: A number d starts with 58236");
        // Of a new house eight numbers follow, and nothing wraps around: 58236 * 31^8 and 7 * 31^7.
        long small = 58236L * 852891037441L + 7 * 27512614111L;
        IS.due("a new house", small, () -> new Versorhall().digest());
        IS.sentence("35: d becomes d * 31 + v, which wraps around as a 64-bit integer");
        digest("an ALGEBRA without DIALS", () -> house(3, BLADES, 0));
        digest("an ELEMENT of 1 UNIT", () -> house(7, DOUBLED, 1));
        digest("an ELEMENT of 16 UNITS", ReturnEdgesTest::ones16);
        IS.sentence("35: match() of it with each ALGEBRA (all that ahead of the next one)");
        digest("four ALGEBRAS", ReturnEdgesTest::fourGrounds);
        IS.sentence("35: ELEMENT by ELEMENT UNIT by UNIT at(), then ofElement() of 0 to 9, and how many letters text() has");
        digest("a full house", Houses::full);
    }

    private static Versorhall ones16() {
        Versorhall x = house(5, BLADES, 1, 1, 2, 3, 4);
        fill(x, 0, all(16, 4));
        return x;
    }

    private static Versorhall fourGrounds() {
        Versorhall x = new Versorhall();
        Houses.ground(x, BLADES, 1, 3, 1, 3);
        Houses.ground(x, BLADES, 3, 5, 2, 4);
        Houses.ground(x, DOUBLED, 6, 6, 6, 6);
        Houses.ground(x, BLADES, 3, 1, 5, 5);
        return x;
    }
}
