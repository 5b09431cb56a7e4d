/** The examples of README.md answer what stands beside them there. */
public final class ReadmeTest {
    private static final Answers IS = new Answers();

    public static void main(String[] args) {
        quaternions();
        plane();
        IS.end();
    }

    private static void quaternions() {
        Versorhall house = new Versorhall();
        IS.due("the quaternions", 0, () -> house.algebra(0));
        IS.due("their first DIAL", 2, () -> house.dial(0, 6));
        IS.due("their second DIAL", 4, () -> house.dial(0, 6));
        IS.due("i", 0, () -> house.element(0));
        IS.due("j", 1, () -> house.element(0));
        IS.due("i is UNIT 1", 0, () -> house.set(0, 1, 1));
        IS.due("j is UNIT 2", 0, () -> house.set(1, 2, 1));
        IS.due("i j", 1, () -> house.product(0, 0, 1));
        IS.due("i j told", "1e3", () -> house.text(0));
        IS.due("LAW 0 breaks", 288, () -> house.breaks(0, 0));
        IS.due("LAW 1 holds", -1, () -> house.breaks(0, 1));
    }

    private static void plane() {
        Versorhall house = new Versorhall();
        IS.due("P before", 7, () -> house.prime(5));
        IS.due("the plane", 0, () -> house.algebra(1));
        IS.due("its first DIAL", 2, () -> house.dial(0, 1));
        IS.due("its second DIAL", 4, () -> house.dial(0, 1));
        IS.due("v", 0, () -> house.element(0));
        IS.due("x", 1, () -> house.element(0));
        IS.due("v is UNIT 1", 0, () -> house.set(0, 1, 1));
        IS.due("x at UNIT 1", 0, () -> house.set(1, 1, 2));
        IS.due("x at UNIT 2", 0, () -> house.set(1, 2, 3));
        IS.due("x MIRRORED by v", 2, () -> house.mirror(1, 0, 1));
        IS.due("x MIRRORED, told", "3e1+3e2", () -> house.text(1));
        IS.due("v is HUNG", 1, () -> house.hang(0));
        IS.due("x is HUNG", 2, () -> house.hang(1));
        IS.due("the VERSOR", 2, () -> house.versor(0));
        IS.due("the VERSOR told", "3e0+2e3", () -> house.text(0));
        IS.due("the VERSOR TURNED", 2, () -> house.turn(0, 0));
        IS.due("what is even commutes", "3e0+2e3", () -> house.text(0));
        IS.due("x has an INVERSE", 2, () -> house.invert(0, 1));
        IS.state("a DIAL told too late", () -> house.dial(0, 1));
    }
}
