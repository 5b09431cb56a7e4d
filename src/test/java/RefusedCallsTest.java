import java.util.HashMap;
import java.util.Map;
import java.util.function.Supplier;

/**
 * Each "Throws" of the document, quoted: calls just outside what is asked are refused, and change nothing; those
 * just inside are taken. "A method that throws an exception changes nothing. If several exceptions apply, the one
 * that is named first is thrown."
 *
 * Unless a call makes its own house it is made in Houses.full(): ELEMENTS 0 to 3 are of the ALGEBRA 0 (DOUBLED,
 * 8 UNITS), 4 to 7 of 1 (BLADES, 8 UNITS), 8 and 9 of 2 (BLADES, 2 UNITS); none is of 3 (DOUBLED, 1 UNIT).
 */
public final class RefusedCallsTest {
    private static final String INDEX = "throws.IndexOutOfBoundsException";
    private static final String ARGUMENT = "throws.IllegalArgumentException";
    private static final String STATE = "throws.IllegalStateException";
    private static final int DOUBLED = Houses.DOUBLED;
    private static final int BLADES = Houses.BLADES;
    private static final int LEAST = Integer.MIN_VALUE;
    private static final int MOST = Integer.MAX_VALUE;
    private static final int[] NO_ALGEBRAS = {-1, 4, LEAST, MOST};
    private static final int[] NO_ELEMENTS = {-1, 10, LEAST, MOST};
    private static final int[] NO_NUMBERS = {-1, 7, LEAST, MOST};
    private static final Supplier<Versorhall> FULL = Houses::full;
    private static final Supplier<Versorhall> EMPTY = Versorhall::new;

    private static final Answers IS = new Answers();
    private static final Map<Supplier<Versorhall>, String> UNTOUCHED = new HashMap<>();

    private interface Call {
        Object of(Versorhall x);
    }

    private interface Call1 {
        Object of(Versorhall x, int a);
    }

    private interface Call2 {
        Object of(Versorhall x, int a, int b);
    }

    private interface Call3 {
        Object of(Versorhall x, int a, int b, int c);
    }

    public static void main(String[] args) {
        prime();
        algebra();
        dial();
        element();
        set();
        sumAndProduct();
        scale();
        conjugateAndPower();
        invert();
        series();
        killer();
        hang();
        clear();
        mirror();
        turn();
        versor();
        run();
        askedOfElements();
        askedOfAlgebras();
        many();
        wouldBe();
        namedFirst();
        changesNothing();
        IS.end();
    }

    // ---- calls that are refused, and calls that are taken

    private static void refused(String told, String exception, Supplier<Versorhall> house, Call call) {
        Versorhall x = house.get();
        IS.due(told, exception, () -> call.of(x));
        String untouched = UNTOUCHED.computeIfAbsent(house, h -> Houses.all(h.get()));
        IS.due(told + ", then all is as before", untouched, () -> Houses.all(x));
    }

    private static void refused(String told, String exception, Call call) {
        refused(told, exception, FULL, call);
    }

    private static void taken(String told, Object want, Supplier<Versorhall> house, Call call) {
        IS.due(told, want, () -> call.of(house.get()));
    }

    private static void taken(String told, Object want, Call call) {
        taken(told, want, FULL, call);
    }

    private static void each(int[] wrong, String exception, Call1 call) {
        for (int number : wrong) {
            refused("with " + number, exception, x -> call.of(x, number));
        }
    }

    /** No such ELEMENT at one place or the other, whatever else is wrong. */
    private static void noElementOfBoth(Call2 call) {
        each(NO_ELEMENTS, INDEX, (x, none) -> call.of(x, none, 0));
        each(NO_ELEMENTS, INDEX, (x, none) -> call.of(x, 0, none));
        each(NO_ELEMENTS, INDEX, (x, none) -> call.of(x, none, 9));
        each(NO_ELEMENTS, INDEX, (x, none) -> call.of(x, 9, none));
        each(NO_ELEMENTS, INDEX, (x, none) -> call.of(x, none, none));
        refused("without any ELEMENT", INDEX, EMPTY, x -> call.of(x, 0, 0));
    }

    private static void noElementOfAllThree(Call3 call) {
        noElementOfBoth((x, a, b) -> call.of(x, a, b, 0));
        noElementOfBoth((x, a, b) -> call.of(x, a, 0, b));
        noElementOfBoth((x, a, b) -> call.of(x, 0, a, b));
    }

    private static void notOfOneAlgebra(Call2 call) {
        for (int[] pair : new int[][] {{0, 4}, {4, 0}, {3, 8}, {8, 3}, {7, 9}, {9, 7}}) {
            refused("of " + pair[0] + " and " + pair[1], ARGUMENT, x -> call.of(x, pair[0], pair[1]));
        }
    }

    private static void notOfOneAlgebraOfThree(Call3 call) {
        notOfOneAlgebra((x, a, b) -> call.of(x, a, a, b));
        notOfOneAlgebra((x, a, b) -> call.of(x, a, b, a));
        notOfOneAlgebra((x, a, b) -> call.of(x, a, b, b));
        refused("of three ALGEBRAS", ARGUMENT, x -> call.of(x, 0, 4, 8));
    }

    private static Supplier<Versorhall> house(int prime, int kind, int elements, int... dials) {
        return () -> Houses.house(prime, kind, elements, dials);
    }

    // ---- what is told

    private static void prime() {
        IS.sentence("2: Throws `IllegalArgumentException` if it is not 3, 5 or 7");
        for (int wrong : new int[] {LEAST, -7, -3, -1, 0, 1, 2, 4, 6, 8, 9, 11, 13, MOST}) {
            refused("prime " + wrong, ARGUMENT, EMPTY, x -> x.prime(wrong));
            refused("prime " + wrong + ", which goes first", ARGUMENT, x -> x.prime(wrong));
        }
        for (int right : Houses.PRIMES) {
            taken("prime " + right, 7, EMPTY, x -> x.prime(right));
        }
        IS.sentence("2: Throws `IllegalStateException` if there are ALGEBRAS");
        for (int right : Houses.PRIMES) {
            refused("prime " + right + " with 4", STATE, x -> x.prime(right));
            refused("prime " + right + " with one", STATE, house(5, DOUBLED, 0), x -> x.prime(right));
            taken("prime " + right + " after an ALGEBRA that was refused", 7, () -> {
                Versorhall x = new Versorhall();
                Answers.of(() -> x.algebra(2));
                return x;
            }, x -> x.prime(right));
        }
    }

    private static void algebra() {
        Supplier<Versorhall> three = () -> {
            Versorhall x = house(7, BLADES, 0).get();
            x.algebra(BLADES);
            x.algebra(BLADES);
            return x;
        };
        IS.sentence("3: Throws `IllegalArgumentException` if kind is not 0 or 1");
        for (int wrong : new int[] {-1, 2, LEAST, MOST}) {
            refused("kind " + wrong, ARGUMENT, three, x -> x.algebra(wrong));
            refused("kind " + wrong + ", which goes first", ARGUMENT, x -> x.algebra(wrong));
        }
        taken("kind 0", 0, EMPTY, x -> x.algebra(0));
        taken("kind 1", 0, EMPTY, x -> x.algebra(1));
        IS.sentence("3: Throws `IllegalStateException` if there are 4");
        taken("with 3", 3, three, x -> x.algebra(0));
        refused("kind 0 with 4", STATE, x -> x.algebra(0));
        refused("kind 1 with 4", STATE, x -> x.algebra(1));
    }

    private static void dial() {
        IS.sentence("4: Throws `IndexOutOfBoundsException` if there is no such ALGEBRA");
        each(NO_ALGEBRAS, INDEX, (x, none) -> x.dial(none, 1));
        each(NO_ALGEBRAS, INDEX, (x, none) -> x.dial(none, 0));
        refused("without any", INDEX, EMPTY, x -> x.dial(0, 1));
        refused("the second of one", INDEX, house(7, BLADES, 0), x -> x.dial(1, 1));
        taken("the last one", 2, x -> x.dial(3, 1));
        IS.sentence("4: Throws `IllegalArgumentException` if dial is not 1 to P less 1");
        each(NO_NUMBERS, ARGUMENT, (x, wrong) -> x.dial(3, wrong));
        each(new int[] {0, 8}, ARGUMENT, (x, wrong) -> x.dial(3, wrong));
        each(new int[] {0, 7}, ARGUMENT, (x, wrong) -> x.dial(2, wrong));
        Supplier<Versorhall> four = house(7, BLADES, 0, 1, 2, 3, 4);
        refused("0 with 4, 0 goes first", ARGUMENT, four, x -> x.dial(0, 0));
        for (int p : Houses.PRIMES) {
            refused("P", ARGUMENT, house(p, DOUBLED, 0), x -> x.dial(0, p));
            taken("P less 1", 2, house(p, DOUBLED, 0), x -> x.dial(0, p - 1));
            taken("1", 2, house(p, BLADES, 0), x -> x.dial(0, 1));
        }
        IS.sentence("4: Throws `IllegalStateException` if it has 4, or there are ELEMENTS of it");
        taken("has 3", 16, house(7, DOUBLED, 0, 1, 2, 3), x -> x.dial(0, 4));
        refused("has 4", STATE, four, x -> x.dial(0, 1));
        refused("has 4, DOUBLED", STATE, house(7, DOUBLED, 0, 1, 2, 3, 4), x -> x.dial(0, 1));
        each(new int[] {0, 1, 2}, STATE, (x, algebra) -> x.dial(algebra, 1));
        refused("has 4, and ELEMENTS", STATE, house(7, BLADES, 1, 1, 2, 3, 4), x -> x.dial(0, 1));
    }

    private static void element() {
        IS.sentence("5: Throws `IndexOutOfBoundsException` if there is no such ALGEBRA");
        Supplier<Versorhall> nine = house(7, BLADES, 9, 1);
        refused("without any", INDEX, EMPTY, x -> x.element(0));
        refused("the second of one", INDEX, nine, x -> x.element(1));
        refused("-1", INDEX, nine, x -> x.element(-1));
        each(NO_ALGEBRAS, INDEX, (x, none) -> x.element(none));
        taken("the last one", 0, () -> {
            Versorhall x = new Versorhall();
            for (int kind = 0; kind < 4; kind++) {
                x.algebra(kind % 2);
            }
            return x;
        }, x -> x.element(3));
        IS.sentence("5: Throws `IllegalStateException` if there are 10");
        taken("with 9", 9, nine, x -> x.element(0));
        refused("with 10", STATE, house(7, BLADES, 10, 1), x -> x.element(0));
        each(new int[] {0, 1, 2, 3}, STATE, (x, algebra) -> x.element(algebra));
    }

    private static void set() {
        IS.sentence("6: Throws `IndexOutOfBoundsException` if there is no such ELEMENT, or UNIT of its ALGEBRA");
        refused("without any", INDEX, EMPTY, x -> x.set(0, 0, 0));
        each(NO_ELEMENTS, INDEX, (x, none) -> x.set(none, 0, 1));
        each(NO_ELEMENTS, INDEX, (x, none) -> x.set(none, 0, 7));
        each(new int[] {-1, 8, 15, 16, LEAST, MOST}, INDEX, (x, none) -> x.set(0, none, 1));
        each(new int[] {-1, 8, LEAST, MOST}, INDEX, (x, none) -> x.set(7, none, 1));
        each(new int[] {-1, 2, 7, LEAST, MOST}, INDEX, (x, none) -> x.set(9, none, 1));
        each(new int[] {-1, 2}, INDEX, (x, none) -> x.set(9, none, -1));
        taken("the last UNIT of 0", 2, x -> x.set(0, 7, 1));
        taken("the last UNIT of 7", 4, x -> x.set(7, 7, 1));
        taken("the last UNIT of 9", 0, x -> x.set(9, 1, 1));
        IS.sentence("6: Throws `IllegalArgumentException` if number is not 0 to P less 1");
        each(NO_NUMBERS, ARGUMENT, (x, wrong) -> x.set(0, 0, wrong));
        taken("0", 1, x -> x.set(0, 0, 0));
        taken("6", 1, x -> x.set(0, 0, 6));
        for (int p : Houses.PRIMES) {
            refused("P", ARGUMENT, house(p, DOUBLED, 1), x -> x.set(0, 0, p));
            taken("P less 1", 0, house(p, DOUBLED, 1), x -> x.set(0, 0, p - 1));
        }
    }

    // ---- what is made

    private static void sumAndProduct() {
        IS.sentence("7: Throws `IndexOutOfBoundsException` if there is no such ELEMENT, of all three");
        noElementOfAllThree((x, into, one, other) -> x.sum(into, one, other));
        taken("the last ones", 0, x -> x.sum(9, 9, 9));
        IS.sentence("7: Throws `IllegalArgumentException` if they are not of one ALGEBRA");
        notOfOneAlgebraOfThree((x, into, one, other) -> x.sum(into, one, other));
        IS.sentence("8: Throws `IndexOutOfBoundsException` if there is no such ELEMENT, of all three");
        noElementOfAllThree((x, into, one, other) -> x.product(into, one, other));
        taken("the last ones", 0, x -> x.product(9, 9, 9));
        IS.sentence("8: Throws `IllegalArgumentException` if they are not of one ALGEBRA");
        notOfOneAlgebraOfThree((x, into, one, other) -> x.product(into, one, other));
    }

    private static void scale() {
        IS.sentence("9: Throws `IndexOutOfBoundsException` if there is no such ELEMENT, of both");
        noElementOfBoth((x, into, one) -> x.scale(into, one, 2));
        noElementOfBoth((x, into, one) -> x.scale(into, one, 7));
        taken("the last one", 1, x -> x.scale(9, 8, 1));
        IS.sentence("9: Throws `IllegalArgumentException` if they are not of one ALGEBRA, or number is not 0 to P less 1");
        notOfOneAlgebra((x, into, one) -> x.scale(into, one, 2));
        notOfOneAlgebra((x, into, one) -> x.scale(into, one, 0));
        notOfOneAlgebra((x, into, one) -> x.scale(into, one, -1));
        each(NO_NUMBERS, ARGUMENT, (x, wrong) -> x.scale(3, 0, wrong));
        taken("0", 0, x -> x.scale(3, 0, 0));
        taken("6", 8, x -> x.scale(3, 0, 6));
        refused("P is 3", ARGUMENT, house(3, DOUBLED, 1), x -> x.scale(0, 0, 3));
        refused("P is 5", ARGUMENT, house(5, DOUBLED, 1), x -> x.scale(0, 0, 5));
    }

    private static void conjugateAndPower() {
        IS.sentence("10: Throws `IndexOutOfBoundsException` if there is no such ELEMENT, of both");
        noElementOfBoth((x, into, one) -> x.conjugate(into, one));
        taken("the last one", 1, x -> x.conjugate(9, 8));
        IS.sentence("10: Throws `IllegalArgumentException` if they are not of one ALGEBRA");
        notOfOneAlgebra((x, into, one) -> x.conjugate(into, one));
        IS.sentence("11: Throws `IndexOutOfBoundsException` if there is no such ELEMENT, of both");
        noElementOfBoth((x, into, one) -> x.power(into, one, 2));
        noElementOfBoth((x, into, one) -> x.power(into, one, -1));
        taken("the last one", 1, x -> x.power(9, 8, 2));
        IS.sentence("11: Throws `IllegalArgumentException` if they are not of one ALGEBRA, or power is not 0 to 60");
        notOfOneAlgebra((x, into, one) -> x.power(into, one, 2));
        notOfOneAlgebra((x, into, one) -> x.power(into, one, 0));
        notOfOneAlgebra((x, into, one) -> x.power(into, one, 61));
        each(new int[] {-1, 61, LEAST, MOST}, ARGUMENT, (x, wrong) -> x.power(1, 0, wrong));
        each(new int[] {-1, 61}, ARGUMENT, (x, wrong) -> x.power(3, 3, wrong));
        taken("0", 1, x -> x.power(1, 0, 0));
        // 5 has the order 6, so 5^60 is 1; UNIT 0 alone.
        taken("60", 1, x -> x.power(1, 2, 60));
    }

    private static void invert() {
        IS.sentence("12: Throws `IndexOutOfBoundsException` if there is no such ELEMENT, of both");
        noElementOfBoth((x, into, one) -> x.invert(into, one));
        each(NO_ELEMENTS, INDEX, (x, none) -> x.invert(none, 3));
        IS.sentence("12: Throws `IllegalArgumentException` if they are not of one ALGEBRA");
        notOfOneAlgebra((x, into, one) -> x.invert(into, one));
        each(new int[] {3, 6, 7}, ARGUMENT, (x, one) -> x.invert(8, one));
        IS.sentence("12: Throws `IllegalStateException` if there is none (section 3)");
        refused("of 0", STATE, x -> x.invert(0, 3));
        refused("of 0, into itself", STATE, x -> x.invert(3, 3));
        refused("of a VECTOR with the SQUARE 0", STATE, x -> x.invert(4, 6));
        // 7 has NORM 5 but is not PLAIN times its CONJUGATE.
        taken("NORM of 7", true, x -> x.ofElement(7, 2) != 0);
        refused("not PLAIN", STATE, x -> x.invert(4, 7));
        taken("of -2", 1, x -> x.invert(0, 2));
    }

    private static void series() {
        IS.sentence("13: Throws `IndexOutOfBoundsException` if there is no such ELEMENT, of both");
        noElementOfBoth((x, into, one) -> x.series(into, one));
        each(NO_ELEMENTS, INDEX, (x, none) -> x.series(none, 2));
        IS.sentence("13: Throws `IllegalArgumentException` if they are not of one ALGEBRA");
        notOfOneAlgebra((x, into, one) -> x.series(into, one));
        each(new int[] {2, 4, 7}, ARGUMENT, (x, one) -> x.series(8, one));
        IS.sentence("13: Throws `IllegalStateException` if there is none (section 3)");
        refused("of -2", STATE, x -> x.series(0, 2));
        refused("of -2, into itself", STATE, x -> x.series(2, 2));
        refused("of a VECTOR with the SQUARE 6", STATE, x -> x.series(5, 4));
        taken("of 0", 1, x -> x.series(0, 3));
        taken("of a VECTOR with the SQUARE 0", 3, x -> x.series(5, 6));
    }

    private static void killer() {
        IS.sentence("14: Throws `IndexOutOfBoundsException` if there is no such ELEMENT, of both");
        noElementOfBoth((x, into, one) -> x.killer(into, one));
        each(NO_ELEMENTS, INDEX, (x, none) -> x.killer(none, 2));
        IS.sentence("14: Throws `IllegalArgumentException` if they are not of one ALGEBRA");
        notOfOneAlgebra((x, into, one) -> x.killer(into, one));
        each(new int[] {2, 4}, ARGUMENT, (x, one) -> x.killer(8, one));
        IS.sentence("14: Throws `IllegalStateException` if there is none");
        refused("of -2", STATE, x -> x.killer(0, 2));
        refused("of -2, into itself", STATE, x -> x.killer(2, 2));
        refused("of a VECTOR with the SQUARE 6", STATE, x -> x.killer(5, 4));
        taken("of 0", 0, x -> x.killer(0, 3));
        taken("of a VECTOR with the SQUARE 0", 4, x -> x.killer(5, 6));
    }

    private static void hang() {
        IS.sentence("15: Throws `IndexOutOfBoundsException` if there is no such ELEMENT");
        each(NO_ELEMENTS, INDEX, (x, none) -> x.hang(none));
        refused("without any", INDEX, EMPTY, x -> x.hang(0));
        IS.sentence("15: Throws `IllegalStateException` if it is no VECTOR, its SQUARE is 0, or there are 6 MIRRORS");
        each(new int[] {0, 2, 3}, STATE, (x, doubled) -> x.hang(doubled));
        refused("no VECTOR", STATE, x -> x.hang(7));
        refused("0, and 6 MIRRORS", STATE, x -> x.hang(9));
        refused("0", STATE, house(7, BLADES, 1, 1), x -> x.hang(0));
        refused("SQUARE 0", STATE, x -> x.hang(6));
        refused("6 MIRRORS", STATE, x -> x.hang(8));
        taken("2 MIRRORS", 3, x -> x.hang(4));
        Supplier<Versorhall> five = () -> {
            Versorhall x = house(7, BLADES, 1, 1).get();
            x.set(0, 1, 1);
            for (int mirrors = 0; mirrors < 5; mirrors++) {
                x.hang(0);
            }
            return x;
        };
        taken("5 MIRRORS", 6, five, x -> x.hang(0));
        refused("5 MIRRORS, no VECTOR", STATE, () -> {
            Versorhall x = five.get();
            x.set(0, 0, 1);
            return x;
        }, x -> x.hang(0));
    }

    private static void clear() {
        IS.sentence("16: Throws `IndexOutOfBoundsException` if there is no such ALGEBRA");
        each(NO_ALGEBRAS, INDEX, (x, none) -> x.clear(none));
        refused("without any", INDEX, EMPTY, x -> x.clear(0));
        refused("the second of one", INDEX, house(7, BLADES, 0), x -> x.clear(1));
        taken("the last one", 0, x -> x.clear(3));
    }

    private static void mirror() {
        IS.sentence("17: Throws `IndexOutOfBoundsException` if there is no such ELEMENT, of all three");
        noElementOfAllThree((x, into, vector, one) -> x.mirror(into, vector, one));
        each(NO_ELEMENTS, INDEX, (x, none) -> x.mirror(none, 7, 6));
        IS.sentence("17: Throws `IllegalArgumentException` if they are not of one ALGEBRA");
        notOfOneAlgebraOfThree((x, into, vector, one) -> x.mirror(into, vector, one));
        refused("and no VECTOR", ARGUMENT, x -> x.mirror(7, 7, 8));
        refused("and a SQUARE of 0", ARGUMENT, x -> x.mirror(8, 6, 7));
        IS.sentence("17: Throws `IllegalStateException` if it is no VECTOR, or its SQUARE is 0");
        refused("of DOUBLED", STATE, x -> x.mirror(0, 1, 2));
        refused("no VECTOR", STATE, x -> x.mirror(4, 7, 5));
        refused("0", STATE, x -> x.mirror(8, 9, 8));
        refused("SQUARE 0", STATE, x -> x.mirror(4, 6, 5));
        refused("SQUARE 0, into itself", STATE, x -> x.mirror(6, 6, 6));
        taken("SQUARE 6", 2, x -> x.mirror(5, 4, 6));
        taken("SQUARE 4, the one is no VECTOR", 6, x -> x.mirror(4, 5, 7));
    }

    private static void turn() {
        IS.sentence("18: Throws `IndexOutOfBoundsException` if there is no such ELEMENT, of both");
        noElementOfBoth((x, into, one) -> x.turn(into, one));
        taken("the last one", 1, x -> x.turn(9, 8));
        IS.sentence("18: Throws `IllegalArgumentException` if they are not of one ALGEBRA");
        notOfOneAlgebra((x, into, one) -> x.turn(into, one));
        IS.sentence("18: Throws `IllegalStateException` if it is no ALGEBRA of BLADES");
        refused("of DOUBLED", STATE, x -> x.turn(0, 1));
        refused("0, of DOUBLED", STATE, x -> x.turn(3, 3));
        refused("of DOUBLED without DIALS", STATE, house(7, DOUBLED, 1), x -> x.turn(0, 0));
        taken("of BLADES without DIALS", 0, house(7, BLADES, 1), x -> x.turn(0, 0));
    }

    private static void versor() {
        IS.sentence("19: Throws `IndexOutOfBoundsException` if there is no such ELEMENT");
        each(NO_ELEMENTS, INDEX, (x, none) -> x.versor(none));
        refused("without any", INDEX, EMPTY, x -> x.versor(0));
        taken("the last one", 1, x -> x.versor(9));
        IS.sentence("19: Throws `IllegalStateException` if it is no ALGEBRA of BLADES");
        each(new int[] {0, 1, 2, 3}, STATE, (x, into) -> x.versor(into));
        refused("of DOUBLED without DIALS", STATE, house(7, DOUBLED, 1), x -> x.versor(0));
        taken("of BLADES without DIALS", 1, house(7, BLADES, 1), x -> x.versor(0));
    }

    private static void run() {
        IS.sentence("20: Throws `IndexOutOfBoundsException` if there is no such ELEMENT");
        each(NO_ELEMENTS, INDEX, (x, none) -> x.run(none, 0));
        each(NO_ELEMENTS, INDEX, (x, none) -> x.run(none, -1));
        refused("without any", INDEX, EMPTY, x -> x.run(0, 0));
        taken("the last one", 0, house(7, DOUBLED, 10), x -> x.run(9, 0));
        IS.sentence("20: Throws `IllegalArgumentException` if word is below 0");
        each(new int[] {-1, -10, LEAST}, ARGUMENT, (x, word) -> x.run(0, word));
        taken("0", 8, x -> x.run(3, 0));
        IS.sentence("20: puts an ELEMENT that there is not, or that is of another ALGEBRA");
        for (int count = 1; count <= 6; count++) {
            int elements = count;
            taken("the last one", 0, house(7, DOUBLED, elements), x -> x.run(0, elements - 1));
            refused("one more", ARGUMENT, house(7, DOUBLED, elements), x -> x.run(0, elements));
        }
        refused("put by the last digit", ARGUMENT, house(7, DOUBLED, 2), x -> x.run(0, 620));
        each(new int[] {4, 5, 640, 604, 94}, ARGUMENT, (x, word) -> x.run(0, word));
        each(new int[] {0, 3, 640, 604}, ARGUMENT, (x, word) -> x.run(7, word));
        each(new int[] {0, 4, 5}, ARGUMENT, (x, word) -> x.run(9, word));
        taken("5, of its own", 1, x -> x.run(7, 5));
        IS.sentence("20: or finds not enough");
        each(new int[] {6, 7, 8, 9, 60, 70, 80, 6610, 7710, 8810, 9, 19, 97}, ARGUMENT, (x, word) -> x.run(3, word));
        each(new int[] {666666666, 999999999, MOST}, ARGUMENT, (x, word) -> x.run(3, word));
        IS.sentence("20: or leaves more than one");
        each(new int[] {10, 33, 210, 9010, 6210, 1000000000, 1666600000, 2000000000}, ARGUMENT, (x, word) -> x.run(3, word));
        taken("just one", 8, x -> x.run(3, 66210));
    }

    // ---- what one asks

    private static void askedOfElements() {
        IS.sentence("21: Throws `IndexOutOfBoundsException` if there is no such ELEMENT, or UNIT of its ALGEBRA");
        each(NO_ELEMENTS, INDEX, (x, none) -> x.at(none, 0));
        each(NO_ELEMENTS, INDEX, (x, none) -> x.at(none, -1));
        refused("without any", INDEX, EMPTY, x -> x.at(0, 0));
        each(new int[] {-1, 8, 16, LEAST, MOST}, INDEX, (x, none) -> x.at(0, none));
        each(new int[] {-1, 8, 16, LEAST, MOST}, INDEX, (x, none) -> x.at(7, none));
        each(new int[] {-1, 2, 7, LEAST, MOST}, INDEX, (x, none) -> x.at(9, none));
        refused("one UNIT", INDEX, house(7, DOUBLED, 1), x -> x.at(0, 1));
        refused("16 UNITS", INDEX, house(7, DOUBLED, 1, 1, 1, 1, 1), x -> x.at(0, 16));
        taken("the last UNIT of 0", 2, x -> x.at(0, 7));
        taken("the last UNIT of 8", 2, x -> x.at(8, 1));
        IS.sentence("22: Throws `IndexOutOfBoundsException` if there is no such ELEMENT");
        for (int asked = -1; asked <= 10; asked++) {
            int what = asked;
            each(NO_ELEMENTS, INDEX, (x, none) -> x.ofElement(none, what));
            refused("without any", INDEX, EMPTY, x -> x.ofElement(0, what));
        }
        taken("the last one", 2, x -> x.ofElement(9, 0));
        IS.sentence("22: Throws `IllegalArgumentException` if what is not 0 to 9");
        each(new int[] {-1, 10, LEAST, MOST}, ARGUMENT, (x, what) -> x.ofElement(0, what));
        taken("0", 0, x -> x.ofElement(0, 0));
        taken("9", 8, x -> x.ofElement(2, 9));
        IS.sentence("23: Throws `IndexOutOfBoundsException` if there is no such ELEMENT");
        each(NO_ELEMENTS, INDEX, (x, none) -> x.text(none));
        refused("without any", INDEX, EMPTY, x -> x.text(0));
        taken("the last one", "0", x -> x.text(9));
        IS.sentence("28: Throws `IndexOutOfBoundsException` if there is no such ELEMENT");
        each(NO_ELEMENTS, INDEX, (x, none) -> x.lean(none));
        refused("without any", INDEX, EMPTY, x -> x.lean(0));
        taken("the last one", 0.0, x -> x.lean(9));
    }

    private static void askedOfAlgebras() {
        IS.sentence("24: Throws `IndexOutOfBoundsException` if there is no such ALGEBRA");
        for (int asked = -1; asked <= 6; asked++) {
            int what = asked;
            each(NO_ALGEBRAS, INDEX, (x, none) -> x.ofAlgebra(none, what));
            refused("without any", INDEX, EMPTY, x -> x.ofAlgebra(0, what));
        }
        taken("the last one", 1, x -> x.ofAlgebra(3, 2));
        IS.sentence("24: Throws `IllegalArgumentException` if what is not 0 to 5");
        each(new int[] {-1, 6, LEAST, MOST}, ARGUMENT, (x, what) -> x.ofAlgebra(0, what));
        taken("0", 1, x -> x.ofAlgebra(1, 0));
        taken("5", 2, x -> x.ofAlgebra(1, 5));
        IS.sentence("25: Throws `IndexOutOfBoundsException` if there is no such ALGEBRA, or UNIT of it, of both");
        each(NO_ALGEBRAS, INDEX, (x, none) -> x.sign(none, 0, 0));
        refused("without any", INDEX, EMPTY, x -> x.sign(0, 0, 0));
        each(new int[] {-1, 8, 16, LEAST, MOST}, INDEX, (x, none) -> x.sign(0, none, 0));
        each(new int[] {-1, 8, 16, LEAST, MOST}, INDEX, (x, none) -> x.sign(0, 0, none));
        each(new int[] {-1, 2, 7, LEAST, MOST}, INDEX, (x, none) -> x.sign(2, none, 1));
        each(new int[] {-1, 2, 7, LEAST, MOST}, INDEX, (x, none) -> x.sign(2, 1, none));
        each(new int[] {-1, 1, LEAST, MOST}, INDEX, (x, none) -> x.sign(3, none, 0));
        each(new int[] {-1, 1, LEAST, MOST}, INDEX, (x, none) -> x.sign(3, 0, none));
        taken("the last UNITS", 6, x -> x.sign(0, 7, 7));
        taken("the last UNITS of 2", 3, x -> x.sign(2, 1, 1));
        IS.sentence("26: Throws `IndexOutOfBoundsException` if there is no such ALGEBRA, or law is not 0 to 3");
        each(NO_ALGEBRAS, INDEX, (x, none) -> x.breaks(none, 0));
        refused("without any", INDEX, EMPTY, x -> x.breaks(0, 0));
        for (int algebra = 0; algebra < 4; algebra++) {
            int asked = algebra;
            each(new int[] {-1, 4, LEAST, MOST}, INDEX, (x, law) -> x.breaks(asked, law));
            taken("LAW 3", -1, x -> x.breaks(asked, 3));
        }
        taken("LAW 0", 288, x -> x.breaks(0, 0));
    }

    private static void many() {
        IS.sentence("30: Throws `IllegalArgumentException` if what is not 0 to 7");
        each(new int[] {-1, 8, LEAST, MOST}, ARGUMENT, (x, what) -> x.many(what));
        refused("of a new house", ARGUMENT, EMPTY, x -> x.many(8));
        refused("of a new house", ARGUMENT, EMPTY, x -> x.many(-1));
        taken("0", 7, x -> x.many(0));
        taken("7", 0, EMPTY, x -> x.many(7));
    }

    // ---- what would be

    private static void wouldBe() {
        IS.sentence("31: Throws `IndexOutOfBoundsException` if there is no such ELEMENT, of both");
        noElementOfBoth((x, one, other) -> x.apart(one, other));
        taken("the last one", 0, x -> x.apart(9, 9));
        IS.sentence("31: Throws `IllegalArgumentException` if they are not of one ALGEBRA");
        notOfOneAlgebra((x, one, other) -> x.apart(one, other));
        IS.sentence("32: Throws `IndexOutOfBoundsException` if there is no such ALGEBRA");
        each(NO_ALGEBRAS, INDEX, (x, none) -> x.row(none, 0));
        each(NO_ALGEBRAS, INDEX, (x, none) -> x.row(none, 7));
        refused("without any", INDEX, EMPTY, x -> x.row(0, 0));
        taken("the last one", -1, x -> x.row(3, 0));
        IS.sentence("32: Throws `IllegalArgumentException` if number is not 0 to P less 1");
        for (int algebra = 0; algebra < 4; algebra++) {
            int asked = algebra;
            each(NO_NUMBERS, ARGUMENT, (x, number) -> x.row(asked, number));
        }
        // 3 x x is 0, 3, 5, 6 by 7.
        taken("0", -1, x -> x.row(2, 0));
        taken("6", 3, x -> x.row(2, 6));
        refused("P is 3", ARGUMENT, house(3, DOUBLED, 0, 1), x -> x.row(0, 3));
        refused("P is 5", ARGUMENT, house(5, DOUBLED, 0, 1), x -> x.row(0, 5));
        IS.sentence("33: Throws `IndexOutOfBoundsException` if there is no such ALGEBRA, of both");
        noAlgebraOfBoth((x, one, other) -> x.match(one, other));
        taken("the last one", -1, x -> x.match(3, 3));
        IS.sentence("34: Throws `IndexOutOfBoundsException` if there is no such ALGEBRA, of both");
        for (int generator : new int[] {LEAST, -1, 0, 3, MOST}) {
            noAlgebraOfBoth((x, one, other) -> x.scaleOf(one, other, generator));
            taken("the last one", -1, x -> x.scaleOf(3, 3, generator));
        }
    }

    private static void noAlgebraOfBoth(Call2 call) {
        each(NO_ALGEBRAS, INDEX, (x, none) -> call.of(x, none, 1));
        each(NO_ALGEBRAS, INDEX, (x, none) -> call.of(x, 1, none));
        each(NO_ALGEBRAS, INDEX, (x, none) -> call.of(x, none, 3));
        each(NO_ALGEBRAS, INDEX, (x, none) -> call.of(x, none, none));
        refused("without any", INDEX, EMPTY, x -> call.of(x, 0, 0));
        refused("the second of one", INDEX, house(7, BLADES, 0), x -> call.of(x, 0, 1));
        refused("the second of one", INDEX, house(7, BLADES, 0), x -> call.of(x, 1, 0));
    }

    // ---- what binds every method

    /** One call for each two exceptions of one method: both apply, and the one that is named first is thrown. */
    private static void namedFirst() {
        IS.sentence("If several exceptions apply, the one that is named first is thrown");
        Supplier<Versorhall> four = house(7, BLADES, 0, 1, 2, 3, 4);
        refused("prime: argument, then state", ARGUMENT, x -> x.prime(4));
        refused("algebra: argument, then state", ARGUMENT, x -> x.algebra(2));
        refused("dial: index, then argument", INDEX, x -> x.dial(4, 0));
        refused("dial: argument, then state by ELEMENTS", ARGUMENT, x -> x.dial(0, 0));
        refused("dial: argument, then state by 4 DIALS", ARGUMENT, four, x -> x.dial(0, 7));
        refused("element: index, then state", INDEX, x -> x.element(4));
        refused("set: index of the ELEMENT, then argument", INDEX, x -> x.set(10, 0, 7));
        refused("set: index of the UNIT, then argument", INDEX, x -> x.set(0, 8, 7));
        refused("sum: index, then argument", INDEX, x -> x.sum(0, 4, 10));
        refused("product: index, then argument", INDEX, x -> x.product(0, 4, 10));
        refused("scale: index, then argument by ALGEBRAS", INDEX, x -> x.scale(10, 4, 1));
        refused("scale: index, then argument by the number", INDEX, x -> x.scale(0, 10, 7));
        refused("power: index, then argument", INDEX, x -> x.power(0, 10, 61));
        refused("invert: index, then state", INDEX, x -> x.invert(10, 3));
        refused("invert: argument, then state", ARGUMENT, x -> x.invert(4, 3));
        refused("series: index, then state", INDEX, x -> x.series(10, 2));
        refused("series: argument, then state", ARGUMENT, x -> x.series(4, 2));
        refused("killer: index, then state", INDEX, x -> x.killer(10, 2));
        refused("killer: argument, then state", ARGUMENT, x -> x.killer(4, 2));
        refused("mirror: index, then argument", INDEX, x -> x.mirror(0, 4, 10));
        refused("mirror: index, then state", INDEX, x -> x.mirror(10, 7, 7));
        refused("mirror: argument, then state", ARGUMENT, x -> x.mirror(4, 0, 4));
        refused("turn: index, then state", INDEX, x -> x.turn(0, 10));
        refused("turn: argument, then state", ARGUMENT, x -> x.turn(0, 4));
        refused("run: index, then argument", INDEX, x -> x.run(10, -1));
        refused("ofElement: index, then argument", INDEX, x -> x.ofElement(10, 10));
        refused("ofAlgebra: index, then argument", INDEX, x -> x.ofAlgebra(4, 6));
        refused("apart: index, then argument", INDEX, x -> x.apart(10, 0));
        refused("row: index, then argument", INDEX, x -> x.row(4, 7));
    }

    /** All on one object, so that what a refused call left behind would be seen in the next ones. */
    private static void changesNothing() {
        IS.sentence("A method that throws an exception changes nothing");
        Versorhall x = Houses.full();
        Call[] calls = {
            y -> y.prime(3), y -> y.algebra(2), y -> y.algebra(0), y -> y.dial(3, 0), y -> y.dial(0, 1), y -> y.element(0),
            y -> y.set(0, 0, 7), y -> y.set(9, 2, 1), y -> y.sum(0, 0, 4), y -> y.product(0, 0, 4), y -> y.scale(0, 1, 7),
            y -> y.conjugate(0, 4), y -> y.power(0, 1, 61), y -> y.invert(0, 3), y -> y.invert(4, 7), y -> y.series(0, 1),
            y -> y.killer(0, 2), y -> y.hang(6), y -> y.hang(7), y -> y.hang(8), y -> y.clear(4), y -> y.mirror(5, 6, 4),
            y -> y.mirror(0, 1, 2), y -> y.turn(0, 1), y -> y.versor(0), y -> y.run(0, 10), y -> y.run(0, 6610),
            y -> y.run(0, 467210), y -> y.ofElement(0, 10), y -> y.ofAlgebra(0, 6), y -> y.breaks(0, 4), y -> y.many(8),
            y -> y.apart(0, 4), y -> y.row(0, 7)};
        for (int round = 0; round < 5; round++) {
            for (int place = 0; place < calls.length; place++) {
                Call call = calls[place];
                IS.due("call " + place + " is refused", true, () -> Answers.of(() -> call.of(x)).toString().startsWith("throws."));
            }
        }
        IS.due("all is as before", Houses.all(Houses.full()), () -> Houses.all(x));
    }
}
