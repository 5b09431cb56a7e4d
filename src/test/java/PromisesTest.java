/** Promise by promise: ordinary inputs, the edges, the wrong inputs, and which exception goes first. */
public final class PromisesTest {
    private static final int DOUBLED = Houses.DOUBLED;
    private static final int BLADES = Houses.BLADES;
    private static final Answers IS = new Answers();

    public static void main(String[] args) {
        told();
        made();
        mirrors();
        asked();
        wouldBe();
        IS.end();
    }

    private static void told() {
        promise1();
        promise2();
        promise3();
        promise4();
        promise5();
        promise6();
    }

    private static void made() {
        promise7();
        promise8();
        promise9();
        promise10();
        promise11();
        promise12();
        promise13();
        promise14();
        promise20();
    }

    private static void mirrors() {
        promise15();
        promise16();
        promise17();
        promise18();
        promise19();
    }

    private static void asked() {
        promise21();
        promise22();
        promise23();
        promise24();
        promise25();
        promise26();
        promise27();
        promise28();
        promise29();
        promise30();
    }

    private static void wouldBe() {
        promise31();
        promise32();
        promise33();
        promise34();
        promise35();
    }

    private static void text(String told, Versorhall x, int element, String want) {
        IS.due(told, want, () -> x.text(element));
    }

    private static void promise1() {
        Versorhall x = new Versorhall();
        IS.due("P of a new house", 7, () -> x.many(0));
        for (int what = 1; what <= 7; what++) {
            int asked = what;
            IS.due("new many " + what, 0, () -> x.many(asked));
        }
        IS.index("new ofAlgebra", () -> x.ofAlgebra(0, 0));
        IS.index("new at", () -> x.at(0, 0));
        Versorhall other = new Versorhall();
        x.algebra(0);
        IS.due("houses are apart", 0, () -> other.many(1));
    }

    private static void promise2() {
        Versorhall x = new Versorhall();
        IS.due("prime 3", 7, () -> x.prime(3));
        IS.due("prime 5", 3, () -> x.prime(5));
        IS.due("prime 7", 5, () -> x.prime(7));
        IS.due("prime 7 again", 7, () -> x.prime(7));
        for (int wrong : new int[] {-7, -1, 0, 1, 2, 4, 6, 8, 9, 11, 13, Integer.MAX_VALUE, Integer.MIN_VALUE}) {
            IS.argument("prime " + wrong, () -> x.prime(wrong));
        }
        IS.due("P stands", 7, () -> x.many(0));
        x.algebra(0);
        IS.state("prime with ALGEBRAS", () -> x.prime(5));
        IS.state("the same prime with ALGEBRAS", () -> x.prime(7));
        IS.argument("the wrong prime goes first", () -> x.prime(4));
        IS.due("P stands still", 7, () -> x.many(0));
    }

    private static void promise3() {
        Versorhall x = new Versorhall();
        IS.argument("kind 2", () -> x.algebra(2));
        IS.argument("kind -1", () -> x.algebra(-1));
        IS.due("no ALGEBRA by a wrong kind", 0, () -> x.many(1));
        for (int number = 0; number < 4; number++) {
            int want = number;
            IS.due("algebra " + number, want, () -> x.algebra(want % 2));
        }
        IS.state("a fifth", () -> x.algebra(0));
        IS.argument("the wrong kind goes first", () -> x.algebra(2));
        IS.due("ALGEBRAS", 4, () -> x.many(1));
        IS.due("kind of 2", 0, () -> x.ofAlgebra(2, 0));
        IS.due("kind of 3", 1, () -> x.ofAlgebra(3, 0));
        IS.due("UNIT 0 alone", 1, () -> x.ofAlgebra(3, 2));
        IS.due("SIGN 1", 1, () -> x.sign(3, 0, 0));
        IS.due("SIGN 1", 1, () -> x.sign(2, 0, 0));
    }

    private static void promise4() {
        Versorhall x = new Versorhall();
        IS.index("dial without ALGEBRA", () -> x.dial(0, 1));
        x.prime(5);
        x.algebra(BLADES);
        x.algebra(DOUBLED);
        IS.index("dial -1", () -> x.dial(-1, 1));
        IS.index("the ALGEBRA goes first", () -> x.dial(2, 0));
        IS.argument("dial 0", () -> x.dial(0, 0));
        IS.argument("dial 5", () -> x.dial(0, 5));
        IS.argument("dial -1", () -> x.dial(0, -1));
        IS.due("UNITS", 2, () -> x.dial(0, 4));
        IS.due("UNITS", 4, () -> x.dial(0, 1));
        IS.due("UNITS", 8, () -> x.dial(0, 2));
        IS.due("UNITS", 16, () -> x.dial(0, 3));
        IS.state("a fifth DIAL", () -> x.dial(0, 1));
        IS.argument("the wrong DIAL goes first", () -> x.dial(0, 5));
        IS.due("UNITS stand", 16, () -> x.ofAlgebra(0, 2));
        x.element(0);
        IS.due("an ELEMENT of another bars none", 2, () -> x.dial(1, 1));
        x.element(1);
        IS.state("with ELEMENTS", () -> x.dial(1, 1));
        IS.argument("with ELEMENTS, a wrong one", () -> x.dial(1, 0));
        IS.due("DIALS stand", 1, () -> x.ofAlgebra(1, 1));
    }

    private static void promise5() {
        Versorhall x = new Versorhall();
        IS.index("element without ALGEBRA", () -> x.element(0));
        x.algebra(BLADES);
        x.algebra(DOUBLED);
        IS.index("element -1", () -> x.element(-1));
        IS.index("element 2", () -> x.element(2));
        for (int number = 0; number < 10; number++) {
            int want = number;
            IS.due("element " + number, want, () -> x.element(want % 2));
        }
        IS.state("an eleventh", () -> x.element(0));
        IS.index("the ALGEBRA goes first", () -> x.element(2));
        IS.due("ELEMENTS", 10, () -> x.many(2));
        IS.due("of the ALGEBRA 0", 5, () -> x.ofAlgebra(0, 3));
        IS.due("0 at first", "0", () -> x.text(9));
        IS.due("ALGEBRA of 9", 1, () -> x.ofElement(9, 0));
    }

    private static void promise6() {
        Versorhall x = Houses.house(5, BLADES, 1, 1, 2, 3, 4);
        Houses.ground(x, BLADES);
        x.element(1);
        IS.due("set", 0, () -> x.set(0, 15, 4));
        IS.due("set again", 4, () -> x.set(0, 15, 1));
        IS.due("set the same", 1, () -> x.set(0, 15, 1));
        IS.index("set 16", () -> x.set(0, 16, 1));
        IS.index("set -1", () -> x.set(0, -1, 1));
        IS.index("set without ELEMENT", () -> x.set(2, 0, 1));
        IS.index("set ELEMENT -1", () -> x.set(-1, 0, 1));
        IS.index("UNIT of its own ALGEBRA", () -> x.set(1, 1, 1));
        IS.argument("number 5", () -> x.set(0, 0, 5));
        IS.argument("number -1", () -> x.set(0, 0, -1));
        IS.index("the UNIT goes first", () -> x.set(0, 16, 5));
        text("what stands", x, 0, "1e15");
    }

    private static void promise7() {
        Versorhall x = Houses.house(7, DOUBLED, 3, 6, 6);
        Houses.fill(x, 0, 1, 2, 3, 4);
        Houses.fill(x, 1, 6, 6, 3, 0);
        IS.due("sum", 3, () -> x.sum(2, 0, 1));
        text("sum", x, 2, "1e1+6e2+4e3");
        IS.due("sum into one of them", 4, () -> x.sum(0, 0, 0));
        text("twice", x, 0, "2e0+4e1+6e2+1e3");
        outside3("sum", (into, one, other) -> Houses.twoGrounds().sum(into, one, other));
    }

    private static void promise8() {
        Versorhall x = Houses.house(7, DOUBLED, 3, 6, 6);
        Houses.fill(x, 0, 0, 1);
        Houses.fill(x, 1, 0, 0, 1);
        IS.due("i j", 1, () -> x.product(2, 0, 1));
        text("i j", x, 2, "1e3");
        x.product(2, 1, 0);
        text("j i", x, 2, "6e3");
        Houses.fill(x, 0, 1, 1, 0, 0);
        Houses.fill(x, 1, 1, 6, 0, 0);
        IS.due("(1 + i) (1 - i)", 1, () -> x.product(1, 0, 1));
        text("(1 + i) (1 - i)", x, 1, "2e0");
        x.product(0, 0, 0);
        text("(1 + i) (1 + i)", x, 0, "2e1");
        Versorhall y = Houses.house(5, BLADES, 3, 2, 3);
        Houses.fill(y, 0, 0, 1, 1, 0);
        Houses.fill(y, 1, 0, 1, 0, 1);
        IS.due("BLADES", 4, () -> y.product(2, 0, 1));
        // (e1 + e2)(e1 + e3) = 2 + e1 e1 e2 + e2 e1 + e2 e1 e2 = 2 + 2 e2 - e3 - 3 e1
        text("BLADES", y, 2, "2e0+2e1+2e2+4e3");
        outside3("product", (into, one, other) -> Houses.twoGrounds().product(into, one, other));
    }

    private interface Call3 {
        Object of(int one, int two, int three) throws Exception;
    }

    /** The wrong inputs of a call of three ELEMENTS: 0 and 1 are of one ALGEBRA, 2 of another, 3 is none. */
    private static void outside3(String name, Call3 call) {
        for (int[] none : new int[][] {{3, 0, 0}, {0, 3, 0}, {0, 0, 3}, {-1, 0, 0}, {0, -1, 0}, {0, 0, -1}, {3, 0, 2}, {2, 3, 0}, {0, 2, 3}}) {
            IS.index(name + " without ELEMENT", () -> call.of(none[0], none[1], none[2]));
        }
        for (int[] apart : new int[][] {{2, 0, 0}, {0, 2, 0}, {0, 0, 2}, {0, 2, 2}, {2, 0, 2}, {2, 2, 0}}) {
            IS.argument(name + " of two ALGEBRAS", () -> call.of(apart[0], apart[1], apart[2]));
        }
    }

    private interface Call2 {
        Object of(int one, int two) throws Exception;
    }

    private static void outside2(String name, Call2 call) {
        for (int[] none : new int[][] {{3, 0}, {0, 3}, {-1, 0}, {0, -1}, {2, 3}, {3, 2}}) {
            IS.index(name + " without ELEMENT", () -> call.of(none[0], none[1]));
        }
        for (int[] apart : new int[][] {{2, 0}, {0, 2}, {1, 2}}) {
            IS.argument(name + " of two ALGEBRAS", () -> call.of(apart[0], apart[1]));
        }
    }

    private static void promise9() {
        Versorhall x = Houses.house(7, DOUBLED, 2, 6, 6);
        Houses.fill(x, 0, 1, 2, 0, 4);
        IS.due("scale", 3, () -> x.scale(1, 0, 3));
        text("scale", x, 1, "3e0+6e1+5e3");
        IS.due("scale by 6", 3, () -> x.scale(0, 0, 6));
        text("scale by 6", x, 0, "6e0+5e1+3e3");
        IS.argument("scale by 7", () -> x.scale(0, 0, 7));
        IS.argument("scale by -1", () -> x.scale(0, 0, -1));
        IS.index("the ELEMENT goes first", () -> x.scale(0, 2, 7));
        text("what stands", x, 0, "6e0+5e1+3e3");
        IS.due("scale by 0", 0, () -> x.scale(0, 0, 0));
        text("scale by 0", x, 0, "0");
        outside2("scale", (into, one) -> Houses.twoGrounds().scale(into, one, 1));
        outside2("scale by a wrong number", (into, one) -> Houses.twoGrounds().scale(into, into == one ? 1 : one, into == 3 ? 7 : 1));
    }

    private static void promise10() {
        Versorhall x = Houses.house(7, DOUBLED, 2, 6, 6);
        Houses.fill(x, 0, 1, 2, 0, 4);
        IS.due("conjugate", 3, () -> x.conjugate(1, 0));
        text("conjugate", x, 1, "1e0+5e1+3e3");
        x.conjugate(1, 1);
        text("conjugate twice", x, 1, "1e0+2e1+4e3");
        Versorhall y = Houses.house(5, BLADES, 1, 1, 1, 1, 1);
        Houses.fill(y, 0, 1, 1, 1, 1, 1, 1, 1, 1, 1, 1, 1, 1, 1, 1, 1, 1);
        IS.due("conjugate of BLADES", 16, () -> y.conjugate(0, 0));
        text("conjugate of BLADES", y, 0,
            "1e0+4e1+4e2+4e3+4e4+4e5+4e6+1e7+4e8+4e9+4e10+1e11+4e12+1e13+1e14+1e15");
        outside2("conjugate", (into, one) -> Houses.twoGrounds().conjugate(into, one));
    }

    private static void promise11() {
        Versorhall x = Houses.house(7, DOUBLED, 2, 6, 6);
        Houses.fill(x, 0, 2, 1);
        IS.due("power 3", 2, () -> x.power(1, 0, 3));
        text("power 3", x, 1, "2e0+4e1");
        IS.due("power 0", 1, () -> x.power(1, 0, 0));
        text("power 0", x, 1, "1e0");
        x.power(1, 0, 1);
        text("power 1", x, 1, "2e0+1e1");
        // 2 + i has the NORM 5, of order 6, and itself the order 48: x^48 is 1, x^60 is x^12.
        x.power(1, 0, 48);
        text("power 48", x, 1, "1e0");
        x.power(1, 0, 60);
        x.power(0, 0, 12);
        IS.due("power 60 is power 12", true, () -> x.text(0).equals(x.text(1)));
        IS.argument("power 61", () -> x.power(0, 0, 61));
        IS.argument("power -1", () -> x.power(0, 0, -1));
        IS.index("the ELEMENT goes first", () -> x.power(2, 0, 61));
        Houses.fill(x, 0, 0, 0);
        IS.due("0^0", 1, () -> x.power(1, 0, 0));
        outside2("power", (into, one) -> Houses.twoGrounds().power(into, one, 2));
        outside2("power 0", (into, one) -> Houses.twoGrounds().power(into, one, 0));
    }

    private static void promise12() {
        Versorhall x = Houses.house(7, DOUBLED, 3, 6, 6);
        Houses.fill(x, 0, 2, 1);
        IS.due("invert", 2, () -> x.invert(2, 0));
        text("invert", x, 2, "6e0+4e1");
        x.product(2, 2, 0);
        text("INVERSE times it", x, 2, "1e0");
        IS.state("0 has none", () -> x.invert(2, 1));
        text("what stands", x, 2, "1e0");
        Versorhall y = Houses.house(5, DOUBLED, 2, 1);
        Houses.fill(y, 0, 1, 1);
        IS.state("NORM 0", () -> y.invert(1, 0));
        Versorhall z = Houses.house(7, BLADES, 2, 1, 1, 1);
        // 1 + e1 e2 e3 times its CONJUGATE, itself, is 1 - 1 + 2 e1 e2 e3: not PLAIN; NORM 0.
        Houses.fill(z, 0, 1, 0, 0, 0, 0, 0, 0, 1);
        IS.state("NORM 0, not PLAIN", () -> z.invert(1, 0));
        // 2 + e1 e2 e3: 4 - 1 + 4 e1 e2 e3: NORM 3, but not PLAIN.
        z.set(0, 0, 2);
        IS.due("NORM", 3, () -> z.ofElement(0, 2));
        IS.state("not PLAIN", () -> z.invert(1, 0));
        Houses.fill(z, 0, 0, 3, 0, 0, 0, 0, 0, 0);
        IS.due("invert a VECTOR", 1, () -> z.invert(0, 0));
        text("1 / 3 e1", z, 0, "5e1");
        outside2("invert", (into, one) -> Houses.twoGrounds().invert(into, one));
    }

    private static void promise13() {
        Versorhall x = Houses.house(5, BLADES, 2, 1, 4, 1, 4);
        IS.due("series of 0", 1, () -> x.series(1, 0));
        text("series of 0", x, 1, "1e0");
        Houses.fill(x, 0, 0, 1, 1);
        IS.due("series of v, v v = 0", 3, () -> x.series(1, 0));
        text("series of v", x, 1, "1e0+1e1+1e2");
        IS.state("series of 1", () -> x.series(0, 1));
        text("what stands", x, 0, "1e1+1e2");
        Houses.fill(x, 0, 0, 2, 2);
        x.series(0, 0);
        text("series into itself", x, 0, "1e0+2e1+2e2");
        cubeIsNothing();
        outside2("series", (into, one) -> Houses.twoGrounds().series(into, one));
    }

    /** For some ELEMENTS x with x x x = 0 (P = 3, so that is as far as a SERIES goes): 1 + x + x x / 2. */
    private static void cubeIsNothing() {
        int found = 0;
        for (int code = 1; code < 6561 && found < 5; code++) {
            Versorhall y = Houses.house(3, BLADES, 2, 1, 2, 1, 2);
            int rest = code;
            for (int unit = 3; unit <= 10; unit++) {
                y.set(0, unit, rest % 3);
                rest /= 3;
            }
            if (y.ofElement(0, 5) == 3) {
                found++;
                y.run(1, 700);
                y.scale(1, 1, 2);
                y.sum(1, 1, 0);
                y.set(1, 0, (y.at(1, 0) + 1) % 3);
                String want = y.text(1);
                y.series(1, 0);
                text("1 + x + x x / 2", y, 1, want);
            }
        }
        int counted = found;
        IS.due("ELEMENTS whose cube is 0", 5, () -> counted);
    }

    private static void promise14() {
        Versorhall x = Houses.house(5, DOUBLED, 2, 1);
        IS.due("KILLER of 0", 0, () -> x.killer(1, 0));
        text("KILLER of 0", x, 1, "1e0");
        IS.state("1 has none", () -> x.killer(0, 1));
        text("what stands", x, 0, "0");
        Houses.fill(x, 0, 1, 1);
        IS.due("KILLER of 1 + i", 1, () -> x.killer(1, 0));
        text("KILLER of 1 + i", x, 1, "4e0+1e1");
        Houses.fill(x, 0, 1, 4);
        x.killer(0, 0);
        text("KILLER into itself", x, 0, "1e0+1e1");
        Versorhall y = Houses.house(7, BLADES, 3, 1, 1, 6);
        // e1 + e3 is null and kills itself first at UNIT 4: (e1 + e3)(e1 + e3) = 0.
        Houses.fill(y, 0, 0, 1, 0, 0, 1);
        IS.due("KILLER of a null VECTOR", 4, () -> y.killer(1, 0));
        text("KILLER of a null VECTOR", y, 1, "1e1+1e4");
        y.product(2, 0, 1);
        text("it kills", y, 2, "0");
        outside2("killer", (into, one) -> Houses.twoGrounds().killer(into, one));
    }

    private static void promise15() {
        Versorhall x = Houses.house(7, BLADES, 3, 1, 1, 6);
        IS.index("hang without ELEMENT", () -> x.hang(3));
        IS.index("hang -1", () -> x.hang(-1));
        IS.state("0 is no VECTOR", () -> x.hang(0));
        Houses.fill(x, 0, 1, 1);
        IS.state("with UNIT 0", () -> x.hang(0));
        Houses.fill(x, 0, 0, 1, 0, 1);
        IS.state("with two GENERATORS", () -> x.hang(0));
        Houses.fill(x, 0, 0, 1, 0, 0, 1);
        IS.state("SQUARE 0", () -> x.hang(0));
        IS.due("MIRRORS", 0, () -> x.ofAlgebra(0, 5));
        Houses.fill(x, 0, 0, 1, 0, 0, 0);
        for (int count = 1; count <= 6; count++) {
            int want = count;
            IS.due("hang", want, () -> x.hang(0));
        }
        IS.state("a seventh", () -> x.hang(0));
        IS.due("MIRRORS", 6, () -> x.ofAlgebra(0, 5));
        Versorhall y = Houses.house(7, DOUBLED, 1, 1);
        Houses.fill(y, 0, 0, 1);
        IS.state("no BLADES", () -> y.hang(0));
        Versorhall z = Houses.house(7, BLADES, 2, 1, 1);
        Houses.fill(z, 0, 0, 1);
        z.hang(0);
        Houses.fill(z, 0, 0, 0, 1);
        z.versor(1);
        text("as it was when it was HUNG", z, 1, "1e1");
    }

    private static void promise16() {
        Versorhall x = Houses.house(7, BLADES, 1, 1, 1);
        Houses.ground(x, DOUBLED);
        Houses.fill(x, 0, 0, 1);
        x.hang(0);
        x.hang(0);
        IS.due("clear", 2, () -> x.clear(0));
        IS.due("MIRRORS", 0, () -> x.ofAlgebra(0, 5));
        IS.due("no KNOCK", 0, () -> x.many(6));
        IS.due("clear again", 0, () -> x.clear(0));
        IS.due("a KNOCK", 1, () -> x.many(6));
        IS.due("clear of DOUBLED", 0, () -> x.clear(1));
        IS.due("two KNOCKS", 2, () -> x.many(6));
        IS.index("clear 2", () -> x.clear(2));
        IS.index("clear -1", () -> x.clear(-1));
        IS.due("still two KNOCKS", 2, () -> x.many(6));
        IS.due("hang after clear", 1, () -> x.hang(0));
    }

    private static void promise17() {
        Versorhall x = Houses.house(7, BLADES, 4, 1, 1, 6);
        Houses.fill(x, 0, 0, 1);
        Houses.fill(x, 1, 3, 1, 2, 0, 5);
        IS.due("mirror", 4, () -> x.mirror(2, 0, 1));
        // -v x v / 1 by e1: 1 to -1, e1 to -e1, e2 to e2, e4 to e4.
        text("mirror by e1", x, 2, "4e0+6e1+2e2+5e4");
        Houses.fill(x, 0, 0, 1, 1);
        Houses.fill(x, 3, 0, 1);
        x.mirror(3, 0, 3);
        text("mirror by e1 + e2, SQUARE 2", x, 3, "6e2");
        x.mirror(0, 0, 0);
        text("a VECTOR by itself", x, 0, "6e1+6e2");
        IS.state("no VECTOR", () -> x.mirror(3, 1, 0));
        Houses.fill(x, 1, 0, 1, 0, 0, 1);
        IS.state("SQUARE 0", () -> x.mirror(3, 1, 0));
        Houses.fill(x, 1, 0, 0, 0, 0, 0);
        IS.state("0", () -> x.mirror(3, 1, 0));
        IS.due("no MIRRORS hung", 0, () -> x.ofAlgebra(0, 5));
        Versorhall y = Houses.house(7, DOUBLED, 2, 1);
        Houses.fill(y, 0, 0, 1);
        IS.state("no BLADES", () -> y.mirror(1, 0, 1));
        outside3("mirror", (into, one, other) -> Houses.twoGrounds().mirror(into, one, other));
    }

    private static void promise18() {
        Versorhall x = Houses.house(7, BLADES, 4, 1, 1, 6);
        Houses.fill(x, 2, 0, 1, 0, 0, 1);
        IS.due("turn without MIRRORS", 2, () -> x.turn(3, 2));
        text("turn without MIRRORS", x, 3, "1e1+1e4");
        Houses.fill(x, 0, 0, 1);
        Houses.fill(x, 1, 0, 1, 1);
        x.hang(0);
        x.hang(1);
        IS.due("turn", 2, () -> x.turn(3, 2));
        // by e1: -e1 + e4; then by e1 + e2: e1 to -e2, so e2 + e4.
        text("turn", x, 3, "1e2+1e4");
        x.turn(2, 2);
        text("turn into itself", x, 2, "1e2+1e4");
        Versorhall y = Houses.house(7, DOUBLED, 2, 1);
        Houses.ground(y, BLADES);
        y.element(1);
        IS.state("no BLADES", () -> y.turn(0, 1));
        IS.argument("two ALGEBRAS go first", () -> y.turn(0, 2));
        IS.index("the ELEMENT goes first", () -> y.turn(0, 3));
        outside2("turn", (into, one) -> Houses.twoGrounds().turn(into, one));
    }

    private static void promise19() {
        Versorhall x = Houses.house(7, BLADES, 3, 1, 1, 6);
        IS.due("versor without MIRRORS", 1, () -> x.versor(2));
        text("versor without MIRRORS", x, 2, "1e0");
        Houses.fill(x, 0, 0, 1);
        Houses.fill(x, 1, 0, 1, 1);
        x.hang(0);
        x.hang(1);
        IS.due("versor", 2, () -> x.versor(2));
        // the last one times the first one: (e1 + e2) e1 = 1 - e3
        text("versor", x, 2, "1e0+6e3");
        IS.index("versor 3", () -> x.versor(3));
        IS.index("versor -1", () -> x.versor(-1));
        Versorhall y = Houses.house(7, DOUBLED, 1);
        IS.state("no BLADES", () -> y.versor(0));
        text("what stands", y, 0, "0");
    }

    private static void promise20() {
        Versorhall x = Houses.house(7, DOUBLED, 7, 6, 6);
        Houses.fill(x, 0, 1, 1);
        Houses.fill(x, 1, 0, 0, 3);
        Houses.fill(x, 5, 0, 0, 0, 2);
        IS.due("run 0", 2, () -> x.run(6, 0));
        text("run 0", x, 6, "1e0+1e1");
        x.run(6, 601);
        text("1 and 0, summed", x, 6, "1e0+1e1+3e2");
        x.run(6, 701);
        // digits from the right: 1, 0, 7: 3j (1 + i) = 3j - 3k
        text("1 times 0", x, 6, "3e2+4e3");
        x.run(6, 710);
        text("0 times 1", x, 6, "3e2+3e3");
        x.run(6, 810);
        text("0 less 1", x, 6, "1e0+1e1+4e2");
        x.run(6, 801);
        text("1 less 0", x, 6, "6e0+6e1+3e2");
        x.run(6, 90);
        text("CONJUGATE", x, 6, "1e0+6e1");
        x.run(6, 5);
        text("run 5", x, 6, "2e3");
        IS.due("run into one of its own", 1, () -> x.run(0, 700));
        text("run into one of its own", x, 0, "2e1");
        wrongWords();
    }

    private static void wrongWords() {
        Versorhall x = Houses.house(7, DOUBLED, 2, 6, 6);
        Houses.ground(x, DOUBLED);
        x.element(1);
        Houses.fill(x, 0, 1, 1);
        for (int wrong : new int[] {-1, Integer.MIN_VALUE, 2, 3, 62, 620, 10, 6, 7, 8, 9, 60, 70, 80, 6610, 100, 16, 17, 18, 19, 106, 108, 1060, 1070, Integer.MAX_VALUE}) {
            IS.argument("run " + wrong, () -> x.run(1, wrong));
        }
        IS.argument("of another ALGEBRA than its own", () -> x.run(2, 0));
        IS.due("of its own ALGEBRA", 0, () -> x.run(2, 2));
        IS.index("run without ELEMENT", () -> x.run(3, 0));
        IS.index("the ELEMENT goes first", () -> x.run(-1, -1));
        text("what stands", x, 1, "0");
        IS.due("seven CONJUGATES", 2, () -> x.run(1, 99999990));
        text("seven CONJUGATES", x, 1, "1e0+6e1");
        IS.due("five on the pile", 2, () -> x.run(1, 666600000));
        text("five times", x, 1, "5e0+5e1");
        // The tenth digit of an int is 0, 1 or 2: it puts one more on what the others left.
        IS.argument("ten digits leave two", () -> x.run(1, 1666600000));
    }

    private static void promise21() {
        Versorhall x = Houses.house(7, BLADES, 1, 1, 1);
        Houses.fill(x, 0, 1, 2, 3, 4);
        for (int unit = 0; unit < 4; unit++) {
            int asked = unit;
            IS.due("at " + unit, asked + 1, () -> x.at(0, asked));
        }
        IS.index("at UNIT 4", () -> x.at(0, 4));
        IS.index("at UNIT -1", () -> x.at(0, -1));
        IS.index("at ELEMENT 1", () -> x.at(1, 0));
        IS.index("at ELEMENT -1", () -> x.at(-1, 0));
    }

    private static void ofElement(String told, Versorhall x, int element, int... wants) {
        for (int what = 0; what < wants.length; what++) {
            int asked = what;
            IS.due(told + ": ofElement " + what, wants[asked], () -> x.ofElement(element, asked));
        }
    }

    private static void promise22() {
        Versorhall x = Houses.house(7, DOUBLED, 2, 6, 6);
        ofElement("0", x, 0, 0, 0, 0, 1, -1, 1, 1, -1, 0, 0);
        Houses.fill(x, 0, 1);
        ofElement("1", x, 0, 0, 1, 1, 1, 1, -1, 1, -1, 4, 4);
        Houses.fill(x, 0, 6);
        ofElement("-1", x, 0, 0, 1, 1, 1, 2, -1, 0, -1, 4, 4);
        Houses.fill(x, 0, 2, 1);
        ofElement("2 + i", x, 0, 0, 2, 5, 0, 48, -1, 0, -1, 4, 4);
        Versorhall y = Houses.house(5, BLADES, 2, 1, 4);
        Houses.ground(y, BLADES, 2);
        y.element(1);
        Houses.fill(y, 0, 0, 1, 1);
        ofElement("e1 + e2", y, 0, 0, 2, 0, 0, -1, 2, 0, 0, 2, 2);
        Houses.fill(y, 1, 0, 0, 3);
        // 3 e2: SQUARE 9 * 4 = 1
        ofElement("3 e2", y, 1, 0, 1, 4, 0, 2, -1, 0, 1, 4, 4);
        Houses.fill(y, 1, 3, 3, 0);
        // (3 + 3 e1)^2 = 9 + 9 + 18 e1 = 3 + 3 e1; NORM 9 - 9
        ofElement("3 + 3 e1", y, 1, 0, 2, 0, 0, -1, -1, 1, -1, 2, 2);
        Houses.fill(y, 2, 0, 1);
        ofElement("of the ALGEBRA 1", y, 2, 1, 1, 3, 0, 8, -1, 0, 2, 2, 2);
        longPowers();
        zeroDivisor();
        IS.argument("what 10", () -> y.ofElement(0, 10));
        IS.argument("what -1", () -> y.ofElement(0, -1));
        IS.index("ELEMENT 3", () -> y.ofElement(3, 0));
        IS.index("the ELEMENT goes first", () -> y.ofElement(-1, 10));
    }

    /** Units of the two by two matrices over 7 numbers have orders up to 48; so no search ends too soon. */
    private static void longPowers() {
        int found = 0;
        for (int code = 0; code < 2401; code++) {
            Versorhall x = Houses.house(7, BLADES, 1, 1, 1);
            Houses.fill(x, 0, code % 7, code / 7 % 7, code / 49 % 7, code / 343);
            found = Math.max(found, x.ofElement(0, 4));
        }
        int greatest = found;
        IS.due("the greatest order of all", 48, () -> greatest);
    }

    /** A zero divisor of 16 UNITS. */
    private static void zeroDivisor() {
        Versorhall x = Houses.house(7, DOUBLED, 1, 6, 6, 6, 6);
        x.set(0, 1, 1);
        x.set(0, 10, 1);
        // x x = -2, which is 5, of the order 6
        ofElement("e1 + e10", x, 0, 0, 2, 2, 0, 12, -1, 0, -1, 12, 12);
    }

    private static void promise23() {
        Versorhall x = Houses.house(7, BLADES, 1, 1, 1, 1, 1);
        text("0", x, 0, "0");
        x.set(0, 15, 6);
        text("one", x, 0, "6e15");
        x.set(0, 0, 3);
        x.set(0, 9, 1);
        x.set(0, 10, 2);
        text("more", x, 0, "3e0+1e9+2e10+6e15");
        IS.index("text 1", () -> x.text(1));
        IS.index("text -1", () -> x.text(-1));
    }

    private static void promise24() {
        Versorhall x = Houses.house(7, BLADES, 3, 1, 1, 6);
        Houses.ground(x, DOUBLED, 6, 6);
        Houses.ground(x, DOUBLED, 6);
        Houses.ground(x, BLADES);
        x.element(2);
        Houses.fill(x, 0, 0, 1);
        x.hang(0);
        int[][] wants = {{1, 3, 8, 3, 129, 1}, {0, 2, 4, 0, 1, 0}, {0, 1, 2, 1, 3, 0}, {1, 0, 1, 0, 1, 0}};
        for (int algebra = 0; algebra < 4; algebra++) {
            for (int what = 0; what < 6; what++) {
                int a = algebra;
                int asked = what;
                IS.due("ofAlgebra " + a + " " + what, wants[a][asked], () -> x.ofAlgebra(a, asked));
            }
        }
        IS.argument("what 6", () -> x.ofAlgebra(0, 6));
        IS.argument("what -1", () -> x.ofAlgebra(0, -1));
        IS.index("ALGEBRA 4", () -> x.ofAlgebra(4, 0));
        IS.index("the ALGEBRA goes first", () -> x.ofAlgebra(-1, 6));
    }

    private static void promise25() {
        Versorhall x = Houses.house(7, DOUBLED, 0, 6, 6, 6);
        // UNITS of the octonions: e1 e4 = e5, e4 e1 = -e5, e2 e5 = e2 (e1 e4): of halves, d a = e1 e2 = e3 in the second.
        int[][] wants = {{0, 0, 1}, {1, 1, 6}, {7, 7, 6}, {1, 2, 1}, {2, 1, 6}, {1, 4, 1}, {4, 1, 6}, {2, 5, 1}, {5, 2, 6}, {5, 6, 6}, {6, 5, 1}};
        for (int[] want : wants) {
            IS.due("sign " + want[0] + " " + want[1], want[2], () -> x.sign(0, want[0], want[1]));
        }
        Houses.ground(x, BLADES, 2, 3, 5);
        int[][] blades = {{0, 7, 1}, {1, 1, 2}, {2, 2, 3}, {4, 4, 5}, {1, 2, 1}, {2, 1, 6}, {3, 3, 1}, {5, 1, 5}, {7, 7, 5}, {4, 3, 1}};
        // 3 3: -(2 * 3) = 1; 5 1: -2; 7 7: -30 = 5; 4 3: two swaps.
        for (int[] want : blades) {
            IS.due("sign of BLADES " + want[0] + " " + want[1], want[2], () -> x.sign(1, want[0], want[1]));
        }
        IS.index("sign 8", () -> x.sign(0, 8, 0));
        IS.index("sign, other 8", () -> x.sign(0, 0, 8));
        IS.index("sign -1", () -> x.sign(0, -1, 0));
        IS.index("sign, other -1", () -> x.sign(0, 0, -1));
        IS.index("sign, ALGEBRA 2", () -> x.sign(2, 0, 0));
        IS.index("sign, ALGEBRA -1", () -> x.sign(-1, 0, 0));
    }

    private static void breaks(Versorhall x, int algebra, int... wants) {
        for (int law = 0; law < 4; law++) {
            int asked = law;
            IS.due("breaks " + algebra + " " + law, wants[asked], () -> x.breaks(algebra, asked));
        }
    }

    private static void promise26() {
        Versorhall x = new Versorhall();
        Houses.ground(x, DOUBLED);
        breaks(x, 0, -1, -1, -1, -1);
        x.dial(0, 6);
        breaks(x, 0, -1, -1, -1, -1);
        x.dial(0, 6);
        breaks(x, 0, 288, -1, -1, -1);
        x.dial(0, 6);
        breaks(x, 0, 288, 292, -1, -1);
        x.dial(0, 6);
        breaks(x, 0, 288, 292, 300, -1);
        Houses.ground(x, BLADES, 1, 1, 1, 1);
        breaks(x, 1, 288, -1, -1, -1);
        IS.index("LAW 4", () -> x.breaks(0, 4));
        IS.index("LAW -1", () -> x.breaks(0, -1));
        IS.index("ALGEBRA 2", () -> x.breaks(2, 0));
        IS.index("ALGEBRA -1", () -> x.breaks(-1, 0));
    }

    private static void promise27() {
        Versorhall x = new Versorhall();
        IS.due("meanSize without ELEMENTS", 0.0, () -> x.meanSize());
        Houses.ground(x, BLADES, 1, 1);
        x.element(0);
        IS.due("meanSize of 0", 0.0, () -> x.meanSize());
        x.element(0);
        x.element(0);
        Houses.fill(x, 1, 1, 2, 3, 4);
        IS.due("meanSize", 4.0 / 3.0, () -> x.meanSize());
    }

    private static void promise28() {
        Versorhall x = Houses.house(7, BLADES, 1, 1, 1, 1, 1);
        IS.due("lean of 0", 0.0, () -> x.lean(0));
        Houses.fill(x, 0, 3);
        IS.due("lean of 3, PLAIN", -0.75, () -> x.lean(0));
        Houses.fill(x, 0, 4);
        IS.due("lean of -3, PLAIN", 0.75, () -> x.lean(0));
        Houses.fill(x, 0, 0, 3);
        IS.due("lean of 3 e1", 1.5, () -> x.lean(0));
        Houses.fill(x, 0, 0, 4);
        IS.due("lean of -3 e1", -1.5, () -> x.lean(0));
        Houses.fill(x, 0, 1, 0, 2);
        IS.due("lean of 1 + 2 e2", 1.75, () -> x.lean(0));
        Houses.fill(x, 0, 0, 0, 0, 0, 0, 0, 0, 0, 0, 0, 0, 0, 0, 0, 0, 2);
        IS.due("8 leaves 0", 0.0, () -> x.lean(0));
        x.set(0, 14, 1);
        IS.due("11.75 leaves 3.75", 3.75, () -> x.lean(0));
        x.set(0, 14, 0);
        x.set(0, 15, 5);
        IS.due("-8 leaves 0, not -0", 0.0, () -> x.lean(0));
        x.set(0, 14, 6);
        IS.due("-11.75 leaves -3.75", -3.75, () -> x.lean(0));
        IS.index("lean 1", () -> x.lean(1));
        IS.index("lean -1", () -> x.lean(-1));
        signedByPrime();
    }

    private static void signedByPrime() {
        Versorhall three = Houses.house(3, BLADES, 1, 1);
        Houses.fill(three, 0, 0, 1);
        IS.due("1 of 3", 0.5, () -> three.lean(0));
        Houses.fill(three, 0, 0, 2);
        IS.due("2 of 3", -0.5, () -> three.lean(0));
        Versorhall five = Houses.house(5, BLADES, 1, 1);
        Houses.fill(five, 0, 0, 2);
        IS.due("2 of 5", 1.0, () -> five.lean(0));
        Houses.fill(five, 0, 0, 3);
        IS.due("3 of 5", -1.0, () -> five.lean(0));
    }

    private static void promise29() {
        Versorhall x = new Versorhall();
        IS.due("poise without ELEMENTS", 0.0, () -> x.poise());
        Houses.ground(x, BLADES, 1);
        x.element(0);
        IS.due("poise of 0", 0.0, () -> x.poise());
        poise(x, 0.0, 0, 1);
        poise(x, 2.0, 0, 3);
        poise(x, -2.0, 0, 4);
        poise(x, 0.0, 0, 6);
        poise(x, 1.0, 2, 1);
        poise(x, 2.0, 2, 2);
        poise(x, -1.0, 5, 6);
        poise(x, 2.0, 3, 3);
        poise(x, -2.0, 4, 4);
        x.element(0);
        Houses.fill(x, 0, 0, 3);
        Houses.fill(x, 1, 0, 3);
        IS.due("mean 1.5", 2.0, () -> x.poise());
        Houses.fill(x, 1, 0, 1);
        IS.due("mean 1", 1.0, () -> x.poise());
        Houses.fill(x, 1, 0, 6);
        IS.due("mean 0.5", 0.0, () -> x.poise());
        Houses.fill(x, 0, 0, 4);
        Houses.fill(x, 1, 0, 1);
        IS.due("mean -0.5", 0.0, () -> x.poise());
        x.element(0);
        Houses.fill(x, 1, 0, 4);
        IS.due("mean -1 of three", -1.0, () -> x.poise());
    }

    private static void poise(Versorhall x, double want, int... numbers) {
        Houses.fill(x, 0, numbers);
        IS.due("poise of lean " + x.lean(0), want, () -> x.poise());
    }

    private static void promise30() {
        Versorhall x = Houses.house(5, BLADES, 3, 1, 4);
        Houses.ground(x, DOUBLED);
        Houses.ground(x, DOUBLED, 1);
        Houses.fill(x, 0, 0, 1, 1);
        Houses.fill(x, 1, 2);
        x.clear(0);
        int[] wants = {5, 3, 3, 7, 2, 2, 1, 0};
        // LEANS: (2 + 3) / 4 = 1.25, -0.5 and 0: 0.75 without what is behind its point.
        for (int what = 0; what < 8; what++) {
            int asked = what;
            IS.due("many " + what, wants[asked], () -> x.many(asked));
        }
        Houses.fill(x, 2, 0, 0, 1);
        IS.due("many 7 of 1.5", 1, () -> x.many(7));
        Houses.fill(x, 0, 0, 4, 4);
        Houses.fill(x, 2, 0, 0, 4);
        IS.due("many 7 of -2.5", -2, () -> x.many(7));
        IS.due("many 4", 1, () -> x.many(4));
        IS.due("many 5", 1, () -> x.many(5));
        IS.argument("many 8", () -> x.many(8));
        IS.argument("many -1", () -> x.many(-1));
    }

    private static void promise31() {
        Versorhall x = Houses.house(7, DOUBLED, 2, 6, 6);
        Houses.fill(x, 0, 2, 1);
        Houses.fill(x, 1, 0, 0, 1);
        IS.due("apart", 1, () -> x.apart(0, 1));
        IS.due("apart, the other way round", 1, () -> x.apart(1, 0));
        IS.due("apart of itself", 0, () -> x.apart(0, 0));
        Houses.fill(x, 1, 1, 2, 3, 4);
        IS.due("apart of more", 2, () -> x.apart(0, 1));
        text("nothing is changed", x, 0, "2e0+1e1");
        text("nothing is changed", x, 1, "1e0+2e1+3e2+4e3");
        outside2("apart", (one, other) -> Houses.twoGrounds().apart(one, other));
        int small = Houses.ground(x, DOUBLED);
        int element = x.element(small);
        x.apart(0, 1);
        IS.due("apart in a smaller ALGEBRA, after a greater one", 0, () -> x.apart(element, element));
    }

    private static void promise32() {
        Versorhall x = Houses.house(7, BLADES, 0, 1, 1, 6);
        IS.due("row 0", 8, () -> x.row(0, 0));
        // 6 * 2 * 2 = 24 = 3
        IS.due("row 3", 2, () -> x.row(0, 3));
        IS.due("row 6", 1, () -> x.row(0, 6));
        IS.due("row 1", 7, () -> x.row(0, 1));
        IS.argument("row 7", () -> x.row(0, 7));
        IS.argument("row -1", () -> x.row(0, -1));
        IS.index("ALGEBRA 1", () -> x.row(1, 0));
        IS.index("the ALGEBRA goes first", () -> x.row(-1, 7));
        Houses.ground(x, DOUBLED, 6, 6);
        // x x + y y = 0 only for 0 0, as -1 is no square by 7.
        IS.due("row 0 of -1 -1", -1, () -> x.row(1, 0));
        // x x + y y = 6 first for 4 + 2, that is x = 2, y = 3.
        IS.due("row 1 of -1 -1", 2 * 7 + 3, () -> x.row(1, 1));
        Houses.ground(x, BLADES);
        IS.due("row without DIALS", -1, () -> x.row(2, 0));
        IS.due("row 1 without DIALS", -1, () -> x.row(2, 1));
        Houses.ground(x, BLADES, 1);
        IS.due("row 2 of 1", 3, () -> x.row(3, 2));
        IS.due("row 3 of 1", -1, () -> x.row(3, 3));
    }

    private static void promise33() {
        Versorhall x = new Versorhall();
        Houses.ground(x, BLADES, 1, 3, 2, 6);
        Houses.ground(x, BLADES, 5, 4, 6, 1);
        Houses.ground(x, BLADES, 1, 1, 1, 3);
        Houses.ground(x, DOUBLED, 1, 3, 2, 6);
        // Squares by 7 are 1, 2, 4: the classes are (s, n, s, n) and (n, s, n, s).
        IS.due("match 0 1", 1032, () -> x.match(0, 1));
        IS.due("match 1 0", 1032, () -> x.match(1, 0));
        IS.due("match of itself", 123, () -> x.match(0, 0));
        IS.due("other classes", -1, () -> x.match(0, 2));
        IS.due("not of BLADES", -1, () -> x.match(0, 3));
        IS.due("not of BLADES", -1, () -> x.match(3, 0));
        IS.due("not of BLADES, itself", -1, () -> x.match(3, 3));
        IS.index("match 4", () -> x.match(4, 0));
        IS.index("match, other 4", () -> x.match(0, 4));
        IS.index("match -1", () -> x.match(-1, 0));
        IS.index("match, other -1", () -> x.match(0, -1));
        Versorhall y = new Versorhall();
        Houses.ground(y, BLADES);
        Houses.ground(y, BLADES);
        Houses.ground(y, BLADES, 1);
        IS.due("without DIALS", 0, () -> y.match(0, 1));
        IS.due("without as many DIALS", -1, () -> y.match(0, 2));
        IS.due("one GENERATOR", 0, () -> y.match(2, 2));
    }

    private static void promise34() {
        Versorhall x = new Versorhall();
        Houses.ground(x, BLADES, 1, 3);
        Houses.ground(x, BLADES, 5, 2);
        Houses.ground(x, DOUBLED, 5, 2);
        Houses.ground(x, BLADES, 1, 1);
        // 1 = 2 * 2 * 2 and 3 = 5 * 3 * 3 (modulo 7)
        IS.due("scaleOf 0", 2, () -> x.scaleOf(0, 1, 0));
        IS.due("scaleOf 1", 3, () -> x.scaleOf(0, 1, 1));
        // 5 = 3 * 2 * 2 (12), 2 = 1 * 3 * 3 (9)
        IS.due("the other way 0", 2, () -> x.scaleOf(1, 0, 0));
        IS.due("the other way 1", 3, () -> x.scaleOf(1, 0, 1));
        IS.due("of itself", 1, () -> x.scaleOf(0, 0, 1));
        IS.due("no GENERATOR 2", -1, () -> x.scaleOf(0, 1, 2));
        IS.due("no GENERATOR -1", -1, () -> x.scaleOf(0, 1, -1));
        IS.due("no order", -1, () -> x.scaleOf(0, 3, 0));
        IS.due("no BLADES", -1, () -> x.scaleOf(0, 2, 0));
        IS.due("no BLADES", -1, () -> x.scaleOf(2, 2, 0));
        IS.index("scaleOf 4", () -> x.scaleOf(4, 0, 0));
        IS.index("scaleOf, other 4", () -> x.scaleOf(0, 4, 0));
        IS.index("scaleOf -1", () -> x.scaleOf(-1, 0, -1));
        IS.index("scaleOf, other -1", () -> x.scaleOf(0, -1, 9));
    }

    private static void promise35() {
        Versorhall x = new Versorhall();
        long d = 58236;
        for (long v : new long[] {7, 0, 0, 0, 0, 0, 0, 0}) {
            d = d * 31 + v;
        }
        long empty = d;
        IS.due("digest of a new house", empty, () -> x.digest());
        x.algebra(BLADES);
        x.element(0);
        x.set(0, 0, 3);
        long[] told = {
            7, 1, 1, 1, 1, 0, 0, 0,
            1, 0, 1, 1, 1, 0, -1, -1, -1, -1, -1, -1, 0,
            3, 0, 1, 2, 1, 6, -1, 0, -1, 1, 1, 3};
        d = 58236;
        for (long v : told) {
            d = d * 31 + v;
        }
        long small = d;
        IS.due("digest of a small house", small, () -> x.digest());
        IS.due("digest changes nothing", small, () -> x.digest());
        x.set(0, 0, 0);
        x.clear(0);
        told = new long[] {
            7, 1, 1, 1, 1, 1, 1, 0,
            1, 0, 1, 1, 1, 0, -1, -1, -1, -1, -1, -1, 0,
            0, 0, 0, 0, 1, -1, 1, 1, -1, 0, 0, 1};
        d = 58236;
        for (long v : told) {
            d = d * 31 + v;
        }
        long cleared = d;
        IS.due("digest with a KNOCK", cleared, () -> x.digest());
    }
}
