/** Houses that several tests begin with. */
final class Houses {
    static final int DOUBLED = 0;
    static final int BLADES = 1;
    static final int[] PRIMES = {3, 5, 7};

    private Houses() {
    }

    /** A house with that PRIME, one ALGEBRA with those DIALS, and some ELEMENTS of it. */
    static Versorhall house(int prime, int kind, int elements, int... dials) {
        Versorhall x = new Versorhall();
        x.prime(prime);
        ground(x, kind, dials);
        for (int made = 0; made < elements; made++) {
            x.element(0);
        }
        return x;
    }

    static int ground(Versorhall x, int kind, int... dials) {
        int algebra = x.algebra(kind);
        for (int dial : dials) {
            x.dial(algebra, dial);
        }
        return algebra;
    }

    /** Sets the numbers of an ELEMENT, from UNIT 0 on. */
    static void fill(Versorhall x, int element, int... numbers) {
        for (int unit = 0; unit < numbers.length; unit++) {
            x.set(element, unit, numbers[unit]);
        }
    }

    /** A house in which the ELEMENTS 0 and 1 are of the ALGEBRA 0, and 2 is of the ALGEBRA 1, both of BLADES. */
    static Versorhall twoGrounds() {
        Versorhall x = house(7, BLADES, 2, 1, 2);
        ground(x, BLADES, 1, 2);
        x.element(1);
        return x;
    }

    /**
     * A house that is full: 4 ALGEBRAS, the last one without ELEMENTS, and 10 ELEMENTS. 0 to 3 are of octonions
     * (3 is 0), 4 to 7 of BLADES with 3 DIALS and two MIRRORS (4 and 5 are VECTORS, 6 a VECTOR with the SQUARE 0,
     * 7 none), 8 and 9 of BLADES with one DIAL and six MIRRORS (8 is a VECTOR, 9 is 0).
     */
    static Versorhall full() {
        Versorhall x = house(7, DOUBLED, 4, 6, 6, 6);
        ground(x, BLADES, 1, 2, 6);
        ground(x, BLADES, 3);
        ground(x, DOUBLED);
        for (int algebra : new int[] {1, 1, 1, 1, 2, 2}) {
            x.element(algebra);
        }
        fill(x, 0, 1, 2, 3, 4, 5, 6, 1, 2);
        fill(x, 1, 0, 0, 3, 0, 0, 0, 0, 1);
        fill(x, 2, 5);
        fill(x, 4, 0, 1, 0, 0, 3);
        fill(x, 5, 0, 0, 4);
        fill(x, 6, 0, 1, 0, 0, 1);
        fill(x, 7, 2, 1, 0, 6, 0, 5, 3, 4);
        fill(x, 8, 0, 2);
        x.hang(4);
        x.hang(5);
        for (int mirrors = 0; mirrors < 6; mirrors++) {
            x.hang(8);
        }
        x.clear(0);
        return x;
    }

    /** All that can be asked of a house; the ELEMENTS are gone then, as the MIRRORS are told through them. */
    static String all(Versorhall x) {
        StringBuilder told = new StringBuilder();
        told.append(x.digest()).append(' ').append(x.meanSize()).append(' ').append(x.poise());
        for (int algebra = 0; algebra < x.many(1); algebra++) {
            for (int unit = 1; unit < x.ofAlgebra(algebra, 2); unit *= 2) {
                told.append(" s").append(x.sign(algebra, unit, unit));
            }
        }
        for (int element = 0; element < x.many(2); element++) {
            told.append(' ').append(x.text(element)).append(' ').append(x.lean(element));
        }
        for (int element = 0; element < x.many(2); element++) {
            if (x.ofAlgebra(x.ofElement(element, 0), 0) == BLADES) {
                x.versor(element);
                told.append(" v").append(x.text(element));
            }
        }
        return told.toString();
    }
}
