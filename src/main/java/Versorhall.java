/** A house of numbers with many units. What each call promises stands in ../shared/DOC.md. */
public final class Versorhall {
    private static final int NONE = -1;
    private static final int DOUBLED = 0;
    private static final int BLADES = 1;
    private static final int FIRST_PRIME = 7;
    private static final int MOST_ALGEBRAS = 4;
    private static final int MOST_DIALS = 4;
    private static final int MOST_UNITS = 16;
    private static final int MOST_ELEMENTS = 10;
    private static final int MOST_MIRRORS = 6;
    private static final int MOST_POWER = 60;
    private static final int LAWS = 4;
    /** An int has ten digits at most, so a WORD puts ten ELEMENTS at most; a pile of MIRRORS is smaller. */
    private static final int MOST_PILED = 10;
    private static final int LAST_PUTTING_DIGIT = 5;
    private static final int DIGEST_START = 58236;
    private static final int DIGEST_FACTOR = 31;

    private int prime = FIRST_PRIME;
    private final Algebra[] algebras = new Algebra[MOST_ALGEBRAS];
    private int algebraCount = 0;
    private final Element[] elements = new Element[MOST_ELEMENTS];
    private int elementCount = 0;
    private int knocks = 0;
    private final Workshop workshop = new Workshop();
    private final Pile pile = new Pile();
    private final int[] order = new int[MOST_DIALS];

    public Versorhall() {
    }

    // ---- what is told

    public int prime(int prime) throws IllegalArgumentException, IllegalStateException {
        if (prime != 3 && prime != 5 && prime != 7) {
            throw new IllegalArgumentException("the PRIME is 3, 5 or 7");
        }
        if (algebraCount > 0) {
            throw new IllegalStateException("there are ALGEBRAS");
        }
        int before = this.prime;
        this.prime = prime;
        return before;
    }

    public int algebra(int kind) throws IllegalArgumentException, IllegalStateException {
        if (kind != DOUBLED && kind != BLADES) {
            throw new IllegalArgumentException("no such KIND");
        }
        if (algebraCount < 0 || algebraCount >= algebras.length) {
            throw new IllegalStateException("there are 4 ALGEBRAS");
        }
        int number = algebraCount;
        algebras[number] = new Algebra(number, kind, prime);
        algebraCount = number + 1;
        return number;
    }

    public int dial(int algebra, int dial)
            throws IndexOutOfBoundsException, IllegalArgumentException, IllegalStateException {
        Algebra home = algebraOf(algebra);
        if (dial < 1 || dial >= prime) {
            throw new IllegalArgumentException("a DIAL is 1 to P less 1");
        }
        if (home.dialCount >= MOST_DIALS || home.elementCount > 0) {
            throw new IllegalStateException("no DIAL is told any more");
        }
        home.addDial(dial);
        return home.units;
    }

    public int element(int algebra) throws IndexOutOfBoundsException, IllegalStateException {
        Algebra home = algebraOf(algebra);
        if (elementCount < 0 || elementCount >= elements.length) {
            throw new IllegalStateException("there are 10 ELEMENTS");
        }
        int number = elementCount;
        elements[number] = new Element(home);
        elementCount = number + 1;
        home.elementCount++;
        return number;
    }

    public int set(int element, int unit, int number) throws IndexOutOfBoundsException, IllegalArgumentException {
        Element x = elementOf(element);
        demandUnit(x.home, unit);
        demandNumber(number);
        int before = x.row.get(unit);
        x.row.put(unit, number);
        return before;
    }

    // ---- what is made

    public int sum(int into, int one, int other) throws IndexOutOfBoundsException, IllegalArgumentException {
        Element result = elementOf(into);
        Element x = elementOf(one);
        Element y = elementOf(other);
        demandOneAlgebra(result, x);
        demandOneAlgebra(x, y);
        x.home.add(result.row, x.row, y.row, 1);
        return result.row.size();
    }

    public int product(int into, int one, int other) throws IndexOutOfBoundsException, IllegalArgumentException {
        Element result = elementOf(into);
        Element x = elementOf(one);
        Element y = elementOf(other);
        demandOneAlgebra(result, x);
        demandOneAlgebra(x, y);
        x.home.multiply(result.row, x.row, y.row);
        return result.row.size();
    }

    public int scale(int into, int one, int number) throws IndexOutOfBoundsException, IllegalArgumentException {
        Element result = elementOf(into);
        Element x = elementOf(one);
        demandOneAlgebra(result, x);
        demandNumber(number);
        x.home.makeMultiple(result.row, x.row, number);
        return result.row.size();
    }

    public int conjugate(int into, int one) throws IndexOutOfBoundsException, IllegalArgumentException {
        Element result = elementOf(into);
        Element x = elementOf(one);
        demandOneAlgebra(result, x);
        x.home.makeConjugate(result.row, x.row);
        return result.row.size();
    }

    public int power(int into, int one, int power) throws IndexOutOfBoundsException, IllegalArgumentException {
        Element result = elementOf(into);
        Element x = elementOf(one);
        demandOneAlgebra(result, x);
        if (power < 0 || power > MOST_POWER) {
            throw new IllegalArgumentException("a POWER is 0 to 60");
        }
        workshop.makePower(x, power);
        return keep(result);
    }

    public int invert(int into, int one)
            throws IndexOutOfBoundsException, IllegalArgumentException, IllegalStateException {
        Element result = elementOf(into);
        Element x = elementOf(one);
        demandOneAlgebra(result, x);
        if (!workshop.makeInverse(x)) {
            throw new IllegalStateException("it has no INVERSE");
        }
        return keep(result);
    }

    public int series(int into, int one)
            throws IndexOutOfBoundsException, IllegalArgumentException, IllegalStateException {
        Element result = elementOf(into);
        Element x = elementOf(one);
        demandOneAlgebra(result, x);
        if (!workshop.makeSeries(x)) {
            throw new IllegalStateException("it has no SERIES");
        }
        return keep(result);
    }

    public int killer(int into, int one)
            throws IndexOutOfBoundsException, IllegalArgumentException, IllegalStateException {
        Element result = elementOf(into);
        Element x = elementOf(one);
        demandOneAlgebra(result, x);
        int greatest = workshop.makeKiller(x);
        if (greatest == NONE) {
            throw new IllegalStateException("it has no KILLER");
        }
        keep(result);
        return greatest;
    }

    public int hang(int element) throws IndexOutOfBoundsException, IllegalStateException {
        Element vector = elementOf(element);
        demandMirroring(vector);
        Pile mirrors = vector.home.mirrors;
        if (mirrors.height >= MOST_MIRRORS) {
            throw new IllegalStateException("there are 6 MIRRORS");
        }
        mirrors.push(vector.row);
        return mirrors.height;
    }

    public int clear(int algebra) throws IndexOutOfBoundsException {
        Pile mirrors = algebraOf(algebra).mirrors;
        int before = mirrors.height;
        if (before == 0) {
            knocks++;
        }
        mirrors.clearAll();
        return before;
    }

    public int mirror(int into, int vector, int one)
            throws IndexOutOfBoundsException, IllegalArgumentException, IllegalStateException {
        Element result = elementOf(into);
        Element v = elementOf(vector);
        Element x = elementOf(one);
        demandOneAlgebra(result, v);
        demandOneAlgebra(v, x);
        demandMirroring(v);
        workshop.makeMirrored(x, v);
        return keep(result);
    }

    public int turn(int into, int one)
            throws IndexOutOfBoundsException, IllegalArgumentException, IllegalStateException {
        Element result = elementOf(into);
        Element x = elementOf(one);
        demandOneAlgebra(result, x);
        demandBlades(x.home);
        workshop.makeTurned(x);
        return keep(result);
    }

    public int versor(int into) throws IndexOutOfBoundsException, IllegalStateException {
        Element result = elementOf(into);
        demandBlades(result.home);
        workshop.makeVersor(result.home);
        return keep(result);
    }

    public int run(int into, int word) throws IndexOutOfBoundsException, IllegalArgumentException {
        Element result = elementOf(into);
        if (word < 0) {
            throw new IllegalArgumentException("a WORD is not below 0");
        }
        Row made = resultOfWord(result.home, word);
        if (made == null) {
            throw new IllegalArgumentException("no such WORD");
        }
        result.row.become(made);
        return result.row.size();
    }

    // ---- what one asks

    public int at(int element, int unit) throws IndexOutOfBoundsException {
        Element x = elementOf(element);
        demandUnit(x.home, unit);
        return x.row.get(unit);
    }

    public int ofElement(int element, int what) throws IndexOutOfBoundsException, IllegalArgumentException {
        Element x = elementOf(element);
        switch (what) {
            case 0:
                return x.home.number;
            case 1:
                return x.row.size();
            case 2:
                return workshop.norm(x);
            case 3:
                return x.row.isPlain() ? 1 : 0;
            case 4:
                return workshop.firstPowerThatIs(1, x, MOST_POWER);
            case 5:
                return workshop.firstPowerThatIs(0, x, x.home.prime);
            case 6:
                return workshop.isItsOwnSquare(x) ? 1 : 0;
            case 7:
                return x.home.squareOf(x.row);
            case 8:
                return workshop.rank(x, true);
            case 9:
                return workshop.rank(x, false);
            default:
                throw new IllegalArgumentException("what is 0 to 9");
        }
    }

    public String text(int element) throws IndexOutOfBoundsException {
        Element x = elementOf(element);
        StringBuilder letters = new StringBuilder();
        for (int unit = 0; unit < x.home.units; unit++) {
            int number = x.row.get(unit);
            if (number != 0) {
                if (letters.length() > 0) {
                    letters.append('+');
                }
                letters.append(number);
                letters.append('e');
                letters.append(unit);
            }
        }
        return letters.length() > 0 ? letters.toString() : "0";
    }

    public int ofAlgebra(int algebra, int what) throws IndexOutOfBoundsException, IllegalArgumentException {
        Algebra home = algebraOf(algebra);
        switch (what) {
            case 0:
                return home.kind;
            case 1:
                return home.dialCount;
            case 2:
                return home.units;
            case 3:
                return home.elementCount;
            case 4:
                return home.centre();
            case 5:
                return home.mirrors.height;
            default:
                throw new IllegalArgumentException("what is 0 to 5");
        }
    }

    public int sign(int algebra, int one, int other) throws IndexOutOfBoundsException {
        Algebra home = algebraOf(algebra);
        demandUnit(home, one);
        demandUnit(home, other);
        return home.signOf(one, other);
    }

    public int breaks(int algebra, int law) throws IndexOutOfBoundsException {
        Algebra home = algebraOf(algebra);
        if (law < 0 || law >= LAWS) {
            throw new IndexOutOfBoundsException("no such LAW");
        }
        return home.breakOf(law);
    }

    public double meanSize() {
        int sizes = 0;
        int counted = 0;
        for (Element x : elements) {
            if (x != null) {
                sizes += x.row.size();
                counted++;
            }
        }
        return counted > 0 ? (double) sizes / counted : 0.0;
    }

    public double lean(int element) throws IndexOutOfBoundsException {
        return elementOf(element).leanInQuarters() / 4.0;
    }

    public double poise() {
        return elementCount > 0 ? roundedToEven(sumOfLeansInQuarters(), 4 * elementCount) : 0.0;
    }

    public int many(int what) throws IllegalArgumentException {
        switch (what) {
            case 0:
                return prime;
            case 1:
                return algebraCount;
            case 2:
                return elementCount;
            case 3:
                return allUnits();
            case 4:
                return plainElements();
            case 5:
                return elementsWithoutNorm();
            case 6:
                return knocks;
            case 7:
                return sumOfLeansInQuarters() / 4;
            default:
                throw new IllegalArgumentException("what is 0 to 7");
        }
    }

    // ---- what would be

    public int apart(int one, int other) throws IndexOutOfBoundsException, IllegalArgumentException {
        Element x = elementOf(one);
        Element y = elementOf(other);
        demandOneAlgebra(x, y);
        workshop.makeCommutator(x, y);
        return workshop.result.size();
    }

    public int row(int algebra, int number) throws IndexOutOfBoundsException, IllegalArgumentException {
        Algebra home = algebraOf(algebra);
        demandNumber(number);
        return home.smallestRowOfForm(number);
    }

    public int match(int one, int other) throws IndexOutOfBoundsException {
        Algebra first = algebraOf(one);
        Algebra second = algebraOf(other);
        if (!findOrder(first, second)) {
            return NONE;
        }
        int told = 0;
        for (int generator = 0; generator < first.dialCount; generator++) {
            told = told * 10 + partnerOf(generator);
        }
        return told;
    }

    public int scaleOf(int one, int other, int generator) throws IndexOutOfBoundsException {
        Algebra first = algebraOf(one);
        Algebra second = algebraOf(other);
        if (generator < 0 || generator >= first.dialCount || !findOrder(first, second)) {
            return NONE;
        }
        return first.scaleFrom(second.dialOf(partnerOf(generator)), first.dialOf(generator));
    }

    public long digest() {
        long d = DIGEST_START;
        for (int what = 0; what <= 7; what++) {
            d = digestWith(d, many(what));
        }
        for (int number = 0; number < algebraCount; number++) {
            d = digestWithAlgebra(d, number);
        }
        for (int number = 0; number < elementCount; number++) {
            d = digestWithElement(d, number);
        }
        return d;
    }

    private long digestWithAlgebra(long start, int number) {
        long d = start;
        Algebra home = algebraOf(number);
        for (int what = 0; what <= 5; what++) {
            d = digestWith(d, ofAlgebra(number, what));
        }
        for (int law = 0; law < LAWS; law++) {
            d = digestWith(d, home.breakOf(law));
        }
        d = digestWith(d, home.smallestRowOfForm(0));
        d = digestWith(d, home.smallestRowOfForm(1));
        for (int other = 0; other < algebraCount; other++) {
            d = digestWith(d, match(number, other));
        }
        return d;
    }

    private long digestWithElement(long start, int number) {
        long d = start;
        Element x = elementOf(number);
        for (int unit = 0; unit < x.home.units; unit++) {
            d = digestWith(d, x.row.get(unit));
        }
        for (int what = 0; what <= 9; what++) {
            d = digestWith(d, ofElement(number, what));
        }
        return digestWith(d, lettersOfText(x));
    }

    private static long digestWith(long d, long value) {
        return d * DIGEST_FACTOR + value;
    }

    // ---- what is demanded of the arguments

    private Algebra algebraOf(int number) {
        Algebra found = number >= 0 && number < algebras.length ? algebras[number] : null;
        if (found == null) {
            throw new IndexOutOfBoundsException("no such ALGEBRA");
        }
        return found;
    }

    private Element elementOrNull(int number) {
        return number >= 0 && number < elements.length ? elements[number] : null;
    }

    private Element elementOf(int number) {
        Element found = elementOrNull(number);
        if (found == null) {
            throw new IndexOutOfBoundsException("no such ELEMENT");
        }
        return found;
    }

    private static void demandUnit(Algebra home, int unit) {
        if (unit < 0 || unit >= home.units) {
            throw new IndexOutOfBoundsException("no such UNIT");
        }
    }

    private void demandNumber(int number) {
        if (number < 0 || number >= prime) {
            throw new IllegalArgumentException("a number is 0 to P less 1");
        }
    }

    private static void demandOneAlgebra(Element one, Element other) {
        if (one.home.number != other.home.number) {
            throw new IllegalArgumentException("they are not of one ALGEBRA");
        }
    }

    private static void demandMirroring(Element vector) {
        // squareOf() tells NONE of what is no VECTOR, so one comparison refuses both.
        if (vector.home.squareOf(vector.row) <= 0) {
            throw new IllegalStateException("it is no VECTOR with a SQUARE that is not 0");
        }
    }

    private static void demandBlades(Algebra home) {
        if (home.kind != BLADES) {
            throw new IllegalStateException("it is no ALGEBRA of BLADES");
        }
    }

    // ---- what several calls share

    private int keep(Element into) {
        into.row.become(workshop.result);
        return into.row.size();
    }

    /** The result of the WORD, or null if there is none. */
    private Row resultOfWord(Algebra home, int word) {
        pile.clearAll();
        int left = word;
        for (int digits = 0; digits == 0 || (left > 0 && digits < MOST_PILED); digits++) {
            if (!obeyDigit(home, left % 10)) {
                return null;
            }
            left = left / 10;
        }
        return pile.height == 1 ? pile.fromTop(0) : null;
    }

    /** Whether the digit could be obeyed. */
    private boolean obeyDigit(Algebra home, int digit) {
        if (digit <= LAST_PUTTING_DIGIT) {
            Element x = elementOrNull(digit);
            return x != null && x.home.number == home.number && pile.push(x.row);
        }
        Row top = pile.fromTop(0);
        if (top == null) {
            return false;
        }
        if (digit == 9) {
            home.makeConjugate(top, top);
            return true;
        }
        Row lower = pile.fromTop(1);
        if (lower == null) {
            return false;
        }
        if (digit == 7) {
            home.multiply(lower, lower, top);
        } else {
            home.add(lower, lower, top, digit == 6 ? 1 : -1);
        }
        pile.pop();
        return true;
    }

    /** Counted without making the text, as what a run makes has little room and digest() asks for each. */
    private static int lettersOfText(Element x) {
        int letters = 0;
        for (int unit = 0; unit < x.home.units; unit++) {
            if (x.row.get(unit) != 0) {
                letters += (letters > 0 ? 1 : 0) + (unit < 10 ? 3 : 4);
            }
        }
        return letters > 0 ? letters : 1;
    }

    private int allUnits() {
        int units = 0;
        for (Algebra home : algebras) {
            if (home != null) {
                units += home.units;
            }
        }
        return units;
    }

    private int plainElements() {
        int plain = 0;
        for (Element x : elements) {
            if (x != null && x.row.isPlain()) {
                plain++;
            }
        }
        return plain;
    }

    private int elementsWithoutNorm() {
        int without = 0;
        for (Element x : elements) {
            if (x != null && workshop.norm(x) == 0) {
                without++;
            }
        }
        return without;
    }

    private int sumOfLeansInQuarters() {
        int sum = 0;
        for (Element x : elements) {
            if (x != null) {
                sum += x.leanInQuarters();
            }
        }
        return sum;
    }

    /** The whole number nearest to over / under (above 0), of a half the even one. */
    private static int roundedToEven(int over, int under) {
        if (under <= 0) {
            return 0;
        }
        int whole = Math.floorDiv(over, under);
        int twiceTheRest = 2 * (over - whole * under);
        boolean up = twiceTheRest > under || (twiceTheRest == under && (whole & 1) == 1);
        return up ? whole + 1 : whole;
    }

    /**
     * Puts the smallest order by which the two MATCH into the row for it, and tells whether there is one.
     * To be a square SCALE apart parts the DIALS into classes, so the smallest partner that is free
     * never takes away the only one of a later GENERATOR.
     */
    private boolean findOrder(Algebra first, Algebra second) {
        if (first.kind != BLADES || second.kind != BLADES || first.dialCount != second.dialCount) {
            return false;
        }
        int taken = 0;
        for (int generator = 0; generator < first.dialCount && generator < order.length; generator++) {
            int partner = firstFreePartner(first.dialOf(generator), second, taken);
            if (partner == NONE) {
                return false;
            }
            order[generator] = partner;
            taken |= 1 << partner;
        }
        return true;
    }

    private static int firstFreePartner(int dial, Algebra second, int taken) {
        for (int partner = 0; partner < second.dialCount; partner++) {
            boolean free = (taken >> partner & 1) == 0;
            if (free && second.scaleFrom(second.dialOf(partner), dial) != NONE) {
                return partner;
            }
        }
        return NONE;
    }

    private int partnerOf(int generator) {
        return generator >= 0 && generator < order.length ? order[generator] : 0;
    }

    /** A number for each UNIT; those above the UNITS of the ALGEBRA stay 0. */
    private static final class Row {
        private final int[] numbers = new int[MOST_UNITS];

        int get(int unit) {
            return unit >= 0 && unit < numbers.length ? numbers[unit] : 0;
        }

        void put(int unit, int number) {
            if (unit >= 0 && unit < numbers.length) {
                numbers[unit] = number;
            }
        }

        void become(Row other) {
            for (int unit = 0; unit < numbers.length; unit++) {
                numbers[unit] = other.get(unit);
            }
        }

        /** Becomes that many times UNIT 0. */
        void becomeNumber(int number) {
            for (int unit = 0; unit < numbers.length; unit++) {
                numbers[unit] = unit == 0 ? number : 0;
            }
        }

        int size() {
            int size = 0;
            for (int number : numbers) {
                if (number != 0) {
                    size++;
                }
            }
            return size;
        }

        boolean isPlain() {
            for (int unit = 1; unit < numbers.length; unit++) {
                if (numbers[unit] != 0) {
                    return false;
                }
            }
            return true;
        }

        boolean isNumber(int number) {
            return get(0) == number && isPlain();
        }

        /** Whether each UNIT with a number that is not 0 has one GENERATOR, and there is such a UNIT. */
        boolean isOfGenerators() {
            boolean found = false;
            for (int unit = 0; unit < numbers.length; unit++) {
                if (numbers[unit] != 0) {
                    if (Integer.bitCount(unit) != 1) {
                        return false;
                    }
                    found = true;
                }
            }
            return found;
        }
    }

    /** Copies of rows, one upon the other. */
    private static final class Pile {
        private final Row[] rows = new Row[MOST_PILED];
        int height = 0;

        Pile() {
            for (int place = 0; place < rows.length; place++) {
                rows[place] = new Row();
            }
        }

        /** The row so far from the bottom, or null if there is none. */
        Row fromBottom(int place) {
            return place >= 0 && place < height && place < rows.length ? rows[place] : null;
        }

        /** The row so far from the top, or null if there is none. */
        Row fromTop(int depth) {
            return fromBottom(height - 1 - depth);
        }

        /** Whether there was a place left for the copy. */
        boolean push(Row row) {
            Row place = height >= 0 && height < rows.length ? rows[height] : null;
            if (place == null) {
                return false;
            }
            place.become(row);
            height++;
            return true;
        }

        void pop() {
            if (height > 0) {
                height--;
            }
        }

        void clearAll() {
            height = 0;
        }
    }

    private static final class Element {
        final Algebra home;
        final Row row = new Row();

        Element(Algebra home) {
            this.home = home;
        }

        /** The LEAN in quarters, for these are whole. */
        int leanInQuarters() {
            int sum = 0;
            for (int unit = 0; unit < home.units; unit++) {
                sum += home.signed(row.get(unit)) * (unit + 1);
            }
            int rest = sum % 32;
            return row.isPlain() ? -rest : rest;
        }
    }

    /** An ALGEBRA: its DIALS, the SIGNS that follow from them, and what one reckons with these. */
    private static final class Algebra {
        private static final int UNKNOWN = -2;

        final int number;
        final int kind;
        final int prime;
        int dialCount = 0;
        int units = 1;
        int elementCount = 0;
        final Pile mirrors = new Pile();
        private final int[] dials = new int[MOST_DIALS];
        private final int[] signs = new int[MOST_UNITS * MOST_UNITS];
        /** Where each LAW breaks: kept, as the SIGNS change by a new DIAL alone and the search is long. */
        private final int[] firstBreaks = new int[LAWS];
        /** Products gather here, so that they may go into a row from which they are made. */
        private final Row gathered = new Row();

        Algebra(int number, int kind, int prime) {
            this.number = number;
            this.kind = kind;
            this.prime = prime;
            putSign(0, 0, 1);
            forgetBreaks();
        }

        void addDial(int dial) {
            if (dialCount < 0 || dialCount >= dials.length) {
                return;
            }
            int half = units;
            dials[dialCount] = dial;
            dialCount++;
            units = 2 * half;
            if (kind == DOUBLED) {
                doubleSigns(half, dial);
            } else {
                reckonBladeSigns();
            }
            forgetBreaks();
        }

        int dialOf(int generator) {
            return generator >= 0 && generator < dials.length ? dials[generator] : 0;
        }

        int signOf(int one, int other) {
            int place = one * MOST_UNITS + other;
            return place >= 0 && place < signs.length ? signs[place] : 0;
        }

        private void putSign(int one, int other, int sign) {
            int place = one * MOST_UNITS + other;
            if (place >= 0 && place < signs.length) {
                signs[place] = sign;
            }
        }

        private void doubleSigns(int half, int dial) {
            for (int i = 0; i < half; i++) {
                for (int j = 0; j < half; j++) {
                    int turnedRound = signOf(j, i);
                    putSign(i, half + j, turnedRound);
                    putSign(half + i, j, reduced(conjugateSign(j) * signOf(i, j)));
                    putSign(half + i, half + j, reduced(dial * conjugateSign(j) * turnedRound));
                }
            }
        }

        private void reckonBladeSigns() {
            for (int i = 0; i < units; i++) {
                for (int j = 0; j < units; j++) {
                    putSign(i, j, bladeSign(i, j));
                }
            }
        }

        private int bladeSign(int one, int other) {
            int sign = 1;
            for (int generator = 0; generator < dialCount; generator++) {
                int bit = 1 << generator;
                if ((one & bit) != 0) {
                    int smaller = Integer.bitCount(other & (bit - 1));
                    sign = (smaller & 1) == 1 ? -sign : sign;
                    sign = (other & bit) != 0 ? sign * dialOf(generator) : sign;
                }
            }
            return reduced(sign);
        }

        int conjugateSign(int unit) {
            if (kind == DOUBLED) {
                return unit == 0 ? 1 : -1;
            }
            int rest = Integer.bitCount(unit) % 4;
            return rest == 1 || rest == 2 ? -1 : 1;
        }

        // -- numbers

        int reduced(int value) {
            int rest = prime > 0 ? value % prime : 0;
            return rest < 0 ? rest + prime : rest;
        }

        int signed(int value) {
            return value > prime / 2 ? value - prime : value;
        }

        /** 1 / value, or 0 for 0. */
        int inverseNumber(int value) {
            for (int inverse = 1; inverse < prime; inverse++) {
                if (reduced(inverse * value) == 1) {
                    return inverse;
                }
            }
            return 0;
        }

        // -- rows: each is written whole, as the row for a result may hold one of a greater ALGEBRA

        /** into = one + times * other. */
        void add(Row into, Row one, Row other, int times) {
            for (int unit = 0; unit < MOST_UNITS; unit++) {
                into.put(unit, reduced(one.get(unit) + times * other.get(unit)));
            }
        }

        void makeMultiple(Row into, Row one, int times) {
            for (int unit = 0; unit < MOST_UNITS; unit++) {
                into.put(unit, reduced(times * one.get(unit)));
            }
        }

        void makeConjugate(Row into, Row one) {
            for (int unit = 0; unit < MOST_UNITS; unit++) {
                into.put(unit, reduced(conjugateSign(unit) * one.get(unit)));
            }
        }

        void multiply(Row into, Row one, Row other) {
            gathered.becomeNumber(0);
            for (int i = 0; i < units; i++) {
                int left = one.get(i);
                if (left != 0) {
                    gatherProducts(i, left, other);
                }
            }
            for (int unit = 0; unit < MOST_UNITS; unit++) {
                into.put(unit, reduced(gathered.get(unit)));
            }
        }

        private void gatherProducts(int i, int left, Row other) {
            for (int j = 0; j < units; j++) {
                int right = other.get(j);
                if (right != 0) {
                    int unit = i ^ j;
                    gathered.put(unit, gathered.get(unit) + left * right * signOf(i, j));
                }
            }
        }

        /** The number of UNIT 0 in the product: it comes from each UNIT times itself alone. */
        int numberOfUnit0(Row one, Row other) {
            int sum = 0;
            for (int unit = 0; unit < units; unit++) {
                sum += one.get(unit) * other.get(unit) * signOf(unit, unit);
            }
            return reduced(sum);
        }

        /** The SQUARE of a VECTOR; NONE, if it is none. */
        int squareOf(Row row) {
            return kind == BLADES && row.isOfGenerators() ? numberOfUnit0(row, row) : NONE;
        }

        // -- laws

        private void forgetBreaks() {
            for (int law = 0; law < firstBreaks.length; law++) {
                firstBreaks[law] = UNKNOWN;
            }
        }

        int breakOf(int law) {
            if (law < 0 || law >= firstBreaks.length) {
                return NONE;
            }
            if (firstBreaks[law] == UNKNOWN) {
                firstBreaks[law] = findBreak(law);
            }
            return firstBreaks[law];
        }

        private int findBreak(int law) {
            int thirds = law == 0 ? 1 : units;
            for (int i = 0; i < units; i++) {
                for (int j = 0; j < units; j++) {
                    for (int k = 0; k < thirds; k++) {
                        if (!isKept(law, i, j, k)) {
                            return 256 * i + 16 * j + k;
                        }
                    }
                }
            }
            return NONE;
        }

        private boolean isKept(int law, int i, int j, int k) {
            switch (law) {
                case 0:
                    return signOf(i, j) == signOf(j, i);
                case 1:
                    return gap(i, j, k) == 0;
                case 2:
                    return reduced(gap(i, j, k) + gap(j, i, k)) == 0 && reduced(gap(i, j, k) + gap(i, k, j)) == 0;
                default:
                    return reduced(gap(i, j, k) + gap(k, j, i)) == 0;
            }
        }

        /** The number of the GAP; its UNIT is the same in whatever order the three stand. */
        private int gap(int i, int j, int k) {
            return reduced(signOf(i, j) * signOf(i ^ j, k) - signOf(j, k) * signOf(i, j ^ k));
        }

        int centre() {
            int set = 0;
            for (int unit = 0; unit < units; unit++) {
                if (isCentral(unit)) {
                    set |= 1 << unit;
                }
            }
            return set;
        }

        private boolean isCentral(int unit) {
            for (int other = 0; other < units; other++) {
                if (!isKept(0, unit, other, 0)) {
                    return false;
                }
            }
            return true;
        }

        // -- forms and maps

        int smallestRowOfForm(int value) {
            int rows = 1;
            for (int generator = 0; generator < dialCount; generator++) {
                rows = rows * prime;
            }
            for (int row = 1; row < rows; row++) {
                if (formOf(row) == value) {
                    return row;
                }
            }
            return NONE;
        }

        private int formOf(int row) {
            int sum = 0;
            int left = row;
            for (int generator = dialCount - 1; generator >= 0; generator--) {
                int x = reduced(left);
                sum += dialOf(generator) * x * x;
                left = prime > 0 ? left / prime : 0;
            }
            return reduced(sum);
        }

        /** The smallest SCALE with dial = from * SCALE * SCALE, or NONE. */
        int scaleFrom(int from, int dial) {
            for (int scale = 1; scale < prime; scale++) {
                if (reduced(from * scale * scale) == dial) {
                    return scale;
                }
            }
            return NONE;
        }
    }

    /** Makes results of ELEMENTS in a row of its own, so that nothing is changed before all is known. */
    private static final class Workshop {
        final Row result = new Row();
        private final Row work = new Row();
        private final Matrix matrix = new Matrix();

        void makePower(Element x, int power) {
            result.becomeNumber(1);
            for (int step = 0; step < power; step++) {
                x.home.multiply(result, result, x.row);
            }
        }

        /** The smallest n from 1 to most for which x^n is that number, or NONE. */
        int firstPowerThatIs(int number, Element x, int most) {
            work.becomeNumber(1);
            for (int power = 1; power <= most; power++) {
                x.home.multiply(work, work, x.row);
                if (work.isNumber(number)) {
                    return power;
                }
            }
            return NONE;
        }

        boolean isItsOwnSquare(Element x) {
            x.home.multiply(work, x.row, x.row);
            x.home.add(work, work, x.row, -1);
            return work.isNumber(0);
        }

        int norm(Element x) {
            x.home.makeConjugate(work, x.row);
            return x.home.numberOfUnit0(x.row, work);
        }

        /** Whether there is an INVERSE. */
        boolean makeInverse(Element x) {
            Algebra home = x.home;
            home.makeConjugate(result, x.row);
            home.multiply(work, x.row, result);
            int norm = work.get(0);
            if (norm == 0 || !work.isPlain()) {
                return false;
            }
            home.makeMultiple(result, result, home.inverseNumber(norm));
            return true;
        }

        /** Whether there is a SERIES. */
        boolean makeSeries(Element x) {
            Algebra home = x.home;
            int length = firstPowerThatIs(0, x, home.prime);
            if (length == NONE) {
                return false;
            }
            result.becomeNumber(1);
            work.becomeNumber(1);
            int share = 1;
            for (int n = 1; n < length; n++) {
                home.multiply(work, work, x.row);
                share = home.reduced(share * home.inverseNumber(n));
                home.add(result, result, work, share);
            }
            return true;
        }

        /** Makes the KILLER and tells its greatest UNIT; NONE without one. */
        int makeKiller(Element x) {
            Algebra home = x.home;
            matrix.becomeMapOf(x, true);
            int free = 0;
            while (free < home.units && matrix.reduceColumn(home, free, free)) {
                free++;
            }
            if (free >= home.units) {
                return NONE;
            }
            // This column is made up of those ahead of it: as column k of these is 1 in line k alone,
            // its cell there tells how much of column k it takes.
            result.becomeNumber(0);
            for (int unit = 0; unit < free; unit++) {
                result.put(unit, home.reduced(-matrix.get(unit, free)));
            }
            result.put(free, 1);
            return free;
        }

        int rank(Element x, boolean fromLeft) {
            matrix.becomeMapOf(x, fromLeft);
            int rank = 0;
            for (int column = 0; column < x.home.units; column++) {
                if (matrix.reduceColumn(x.home, column, rank)) {
                    rank++;
                }
            }
            return rank;
        }

        void makeMirrored(Element x, Element vector) {
            result.become(x.row);
            reflect(x.home, vector.row);
        }

        void makeTurned(Element x) {
            result.become(x.row);
            Pile mirrors = x.home.mirrors;
            for (int place = 0; place < mirrors.height; place++) {
                Row vector = mirrors.fromBottom(place);
                if (vector != null) {
                    reflect(x.home, vector);
                }
            }
        }

        /** MIRRORS the result. */
        private void reflect(Algebra home, Row vector) {
            home.multiply(result, vector, result);
            home.multiply(result, result, vector);
            home.makeMultiple(result, result, -home.inverseNumber(home.squareOf(vector)));
        }

        void makeVersor(Algebra home) {
            result.becomeNumber(1);
            Pile mirrors = home.mirrors;
            for (int place = 0; place < mirrors.height; place++) {
                Row vector = mirrors.fromBottom(place);
                if (vector != null) {
                    home.multiply(result, vector, result);
                }
            }
        }

        void makeCommutator(Element x, Element y) {
            x.home.multiply(result, x.row, y.row);
            x.home.multiply(work, y.row, x.row);
            x.home.add(result, result, work, -1);
        }
    }

    /** The map y to x y (or y x): the numbers of its values at the UNITS are the columns. */
    private static final class Matrix {
        private final int[] cells = new int[MOST_UNITS * MOST_UNITS];

        void becomeMapOf(Element x, boolean fromLeft) {
            Algebra home = x.home;
            for (int column = 0; column < home.units; column++) {
                for (int unit = 0; unit < home.units; unit++) {
                    int sign = fromLeft ? home.signOf(unit, column) : home.signOf(column, unit);
                    put(unit ^ column, column, home.reduced(x.row.get(unit) * sign));
                }
            }
        }

        int get(int line, int column) {
            int place = line * MOST_UNITS + column;
            return place >= 0 && place < cells.length ? cells[place] : 0;
        }

        private void put(int line, int column, int number) {
            int place = line * MOST_UNITS + column;
            if (place >= 0 && place < cells.length) {
                cells[place] = number;
            }
        }

        /** If the column is not 0 from that line on: makes it 1 in the line and 0 in all others. Whether it was. */
        boolean reduceColumn(Algebra home, int column, int line) {
            int pivot = line;
            while (pivot < home.units && get(pivot, column) == 0) {
                pivot++;
            }
            if (pivot >= home.units) {
                return false;
            }
            swapLines(home.units, pivot, line);
            int inverse = home.inverseNumber(get(line, column));
            for (int place = 0; place < home.units; place++) {
                put(line, place, home.reduced(get(line, place) * inverse));
            }
            for (int other = 0; other < home.units; other++) {
                int times = get(other, column);
                if (other != line && times != 0) {
                    subtractLine(home, other, line, times);
                }
            }
            return true;
        }

        private void swapLines(int size, int one, int other) {
            for (int column = 0; column < size; column++) {
                int kept = get(one, column);
                put(one, column, get(other, column));
                put(other, column, kept);
            }
        }

        private void subtractLine(Algebra home, int from, int line, int times) {
            for (int place = 0; place < home.units; place++) {
                put(from, place, home.reduced(get(from, place) - times * get(line, place)));
            }
        }
    }
}
