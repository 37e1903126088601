import java.util.Arrays;

/** Cubics y y = x x x + a x + b over fractions and over rests by primes, and the points on them. */
public final class CubicBench {
    public static final int NONE = -1;

    private static final int CUBICS = 40;
    private static final int POINTS = 400;
    private static final int WIDEST = 10_000;
    private static final int OUTERMOST = 1_000_000;
    private static final int LEAST_PRIME = 5;
    private static final int GREATEST_PRIME = 1_000_003;
    private static final int LISTED_PRIME = 2_000;
    private static final int MOST_TIMES = 20;
    private static final int MOST_SEARCHED = 400;
    private static final int MOST_PAIRED = 1_000_000;
    private static final int PAGE_ROOM = 256;
    private static final int UNFIT = -1;
    private static final int SPENT = -2;
    private static final int BEYOND = -2;
    private static final int APART = -3;
    private static final int SPENT_ON_THE_WAY = -4;

    private final Curve[] curves;
    private int curvesHeld;
    private final Spot[] spots;
    private int spotsHeld;
    private final byte[] page;
    private int pageLength;
    private final Spot asked;
    private final Fractions fractions;
    private final Rests rests;
    private final Torsion torsion;
    private final Searching searching;
    private final Listing listing;
    private final Chain firstChain;
    private final Chain secondChain;
    private final Division division;
    private final Lead lead;

    public CubicBench() {
        curves = new Curve[CUBICS];
        spots = new Spot[POINTS];
        page = new byte[PAGE_ROOM];
        asked = new Spot(Big.SMALL_ROOM);
        fractions = new Fractions();
        rests = new Rests();
        torsion = new Torsion();
        searching = new Searching();
        listing = new Listing();
        firstChain = new Chain();
        secondChain = new Chain();
        division = new Division();
        lead = new Lead();
    }

    public int cubic(int a, int b) throws IllegalArgumentException, IllegalStateException {
        if (a < -WIDEST || a > WIDEST || b < -WIDEST || b > WIDEST) {
            throw new IllegalArgumentException("a or b is beyond 10,000");
        }
        return Curve.worthOf(a, b, 0) == 0 ? UNFIT : keptCurve(a, b, 0);
    }

    public int rest(int c, int p)
            throws IndexOutOfBoundsException, IllegalArgumentException, IllegalStateException {
        Curve whole = wholeCurve(c);
        if (!isFitPrime(p)) {
            throw new IllegalArgumentException("p is no prime from 5 to 1,000,003");
        }
        int a = Math.floorMod(whole.a, p);
        int b = Math.floorMod(whole.b, p);
        return Curve.worthOf(a, b, p) == 0 ? UNFIT : keptCurve(a, b, p);
    }

    public int turned(int c)
            throws IndexOutOfBoundsException, IllegalArgumentException, IllegalStateException {
        Curve curve = restCurve(c);
        long p = curve.p;
        long d = Rests.leastNoSquare(p);
        long squared = d * d % p;
        long a = curve.a * squared % p;
        long b = curve.b * squared % p * d % p;
        return keptCurve((int) a, (int) b, curve.p);
    }

    public long about(int c, int what) throws IndexOutOfBoundsException, IllegalArgumentException {
        Curve curve = curveAt(c);
        switch (what) {
            case 0:
                return curve.a;
            case 1:
                return curve.b;
            case 2:
                return curve.p;
            case 3:
                return Curve.worthOf(curve.a, curve.b, curve.p);
            case 4:
                return curve.isWhole() ? 0 : curve.invariant();
            default:
                throw new IllegalArgumentException("what is not 0 to 4");
        }
    }

    public int far(int c) throws IndexOutOfBoundsException, IllegalStateException {
        Curve curve = curveAt(c);
        asked.setFar(c, curve);
        return keptSpot(asked);
    }

    public int point(int c, int x, int y)
            throws IndexOutOfBoundsException, IllegalArgumentException, IllegalStateException {
        Curve curve = curveAt(c);
        int least = curve.isWhole() ? -OUTERMOST : 0;
        int most = curve.isWhole() ? OUTERMOST : curve.p - 1;
        if (x < least || x > most || y < least || y > most) {
            throw new IllegalArgumentException("x or y is out of reach");
        }
        if (!curve.holds(x, y)) {
            return UNFIT;
        }
        if (curve.isWhole()) {
            asked.setWhole(c, x, y);
        } else {
            asked.setRest(c, Rests.codeOf(x, y));
        }
        return keptSpot(asked);
    }

    public int add(int p, int q) throws IndexOutOfBoundsException, IllegalStateException {
        Spot first = spotAt(p);
        Spot second = spotAt(q);
        if (first.curve != second.curve) {
            return UNFIT;
        }
        Curve curve = curveAt(first.curve);
        if (!curve.isWhole()) {
            return keptRest(first.curve, Rests.sumOf(first.code, second.code, curve.a, curve.p));
        }
        return fractions.sum(first, second, curve) ? keptResult(first.curve) : SPENT;
    }

    public int mirror(int p) throws IndexOutOfBoundsException, IllegalStateException {
        Spot spot = spotAt(p);
        Curve curve = curveAt(spot.curve);
        if (!curve.isWhole()) {
            return keptRest(spot.curve, Rests.mirrorOf(spot.code, curve.p));
        }
        asked.set(spot);
        asked.t.turn();
        return keptSpot(asked);
    }

    public int times(int p, int n)
            throws IndexOutOfBoundsException, IllegalArgumentException, IllegalStateException {
        Spot spot = spotAt(p);
        Curve curve = curveAt(spot.curve);
        if (curve.isWhole() && (n < -MOST_TIMES || n > MOST_TIMES)) {
            throw new IllegalArgumentException("n is not -20 to 20");
        }
        if (curve.isWhole()) {
            return fractions.multiple(spot, n, curve) ? keptResult(spot.curve) : SPENT;
        }
        long base = n < 0 ? Rests.mirrorOf(spot.code, curve.p) : spot.code;
        return keptRest(spot.curve, Rests.multiple(base, Math.abs((long) n), curve.a, curve.p));
    }

    public int order(int p) throws IndexOutOfBoundsException {
        Spot spot = spotAt(p);
        return orderOf(spot, curveAt(spot.curve));
    }

    public int told(int p, int what) throws IndexOutOfBoundsException, IllegalArgumentException {
        Spot spot = spotAt(p);
        if (what != 0 && what != 1) {
            throw new IllegalArgumentException("what is not 0 or 1");
        }
        if (what == 0) {
            return spot.curve;
        }
        return spot.far ? 1 : 0;
    }

    public int print(int p, int what) throws IndexOutOfBoundsException, IllegalArgumentException {
        Spot spot = spotAt(p);
        if (what != 0 && what != 1) {
            throw new IllegalArgumentException("what is not 0 or 1");
        }
        if (spot.far) {
            return NONE;
        }
        pageLength = fractions.write(spot, what == 0, curveAt(spot.curve), page);
        return pageLength;
    }

    public int back(int c) throws IndexOutOfBoundsException, IllegalArgumentException {
        torsion.readyFor(wholeCurve(c));
        return torsion.held;
    }

    public int backAt(int c, int k)
            throws IndexOutOfBoundsException, IllegalArgumentException, IllegalStateException {
        Curve curve = wholeCurve(c);
        torsion.readyFor(curve);
        if (k < 0 || k >= torsion.held) {
            return NONE;
        }
        if (k == 0) {
            asked.setFar(c, curve);
        } else {
            asked.setWhole(c, torsion.xAt(k), torsion.yAt(k));
        }
        return keptSpot(asked);
    }

    public int search(int c, int bound) throws IndexOutOfBoundsException, IllegalArgumentException {
        Curve curve = wholeCurve(c);
        if (bound < 1 || bound > MOST_SEARCHED) {
            throw new IllegalArgumentException("the bound is not 1 to 400");
        }
        return searching.run(curve, bound);
    }

    public long found(int k, int what) throws IndexOutOfBoundsException, IllegalArgumentException {
        if (k < 0 || k >= searching.held) {
            throw new IndexOutOfBoundsException("the latest search has no such one");
        }
        if (what < 0 || what > 2) {
            throw new IllegalArgumentException("what is not 0 to 2");
        }
        return searching.partAt(k, what);
    }

    public int count(int c) throws IndexOutOfBoundsException, IllegalArgumentException {
        return pointsOf(restCurve(c));
    }

    public long over(int c, int k) throws IndexOutOfBoundsException, IllegalArgumentException {
        Curve curve = restCurve(c);
        if (k < 1 || k > 3) {
            throw new IllegalArgumentException("k is not 1 to 3");
        }
        long p = curve.p;
        long t = p + 1 - pointsOf(curve);
        long before = 2;
        long now = t;
        long power = p;
        for (int j = 2; j <= k; j++) {
            long next = t * now - p * before;
            before = now;
            now = next;
            power *= p;
        }
        return power + 1 - now;
    }

    public int list(int c, int k)
            throws IndexOutOfBoundsException, IllegalArgumentException, IllegalStateException {
        Curve curve = listedCurve(c);
        listing.readyFor(curve);
        return k < 0 || k >= listing.held ? NONE : keptRest(c, listing.codeAt(k));
    }

    public int group(int c, int what)
            throws IndexOutOfBoundsException, IllegalArgumentException, IllegalStateException {
        Curve curve = listedCurve(c);
        if (what < 0 || what > 3) {
            throw new IllegalArgumentException("what is not 0 to 3");
        }
        listing.groupFor(curve);
        if (what == 0) {
            return listing.longest;
        }
        if (what == 1) {
            return listing.across;
        }
        if (what == 3 && !listing.hasSecond) {
            return NONE;
        }
        return keptRest(c, what == 2 ? listing.firstMaker : listing.secondMaker);
    }

    public int pair(int p, int q, int n) throws IndexOutOfBoundsException, IllegalArgumentException {
        Spot first = spotAt(p);
        Spot second = spotAt(q);
        if (first.curve != second.curve) {
            throw new IllegalArgumentException("the points are not of one cubic");
        }
        Curve curve = listedCurve(first.curve);
        if (n < 2 || n > MOST_PAIRED || n % curve.p == 0) {
            throw new IllegalArgumentException("n is not 2 to 1,000,000, or a multiple of p");
        }
        if (Rests.multiple(first.code, n, curve.a, curve.p) != Rests.FAR
                || Rests.multiple(second.code, n, curve.a, curve.p) != Rests.FAR) {
            throw new IllegalArgumentException("n times a point is not FAR");
        }
        if (first.far || second.far || first.code == second.code) {
            return 1;
        }
        return paired(first.code, second.code, n, curve);
    }

    public int polynomial(int c, int n) throws IndexOutOfBoundsException, IllegalArgumentException {
        Curve curve = listedCurve(c);
        if (n < 1 || n > Division.MOST) {
            throw new IllegalArgumentException("n is not 1 to 11");
        }
        division.workOut(curve, n);
        return division.degree;
    }

    public int coefficient(int k) {
        return division.coefficientAt(k);
    }

    public int root(int k) {
        return division.rootAt(k);
    }

    public int led(int p) throws IndexOutOfBoundsException, IllegalStateException {
        Spot spot = spotAt(p);
        Curve curve = curveAt(spot.curve);
        int answer = lead.workOut(spot, curve, orderOf(spot, curve));
        return answer < 0 ? answer : keptCurve((int) lead.a, (int) lead.b, curve.p);
    }

    public int through(int p, int q) throws IndexOutOfBoundsException, IllegalStateException {
        Spot by = spotAt(p);
        Spot spot = spotAt(q);
        Curve curve = curveAt(by.curve);
        int answer = lead.workOut(by, curve, orderOf(by, curve));
        if (answer < 0) {
            return answer;
        }
        if (by.curve != spot.curve) {
            return APART;
        }
        if (!curve.isWhole()) {
            long code = lead.carried(spot.code, curve.p);
            return keptRest(curveWithRoom((int) lead.a, (int) lead.b, curve.p), code);
        }
        if (!fractions.carry(spot, lead)) {
            return SPENT_ON_THE_WAY;
        }
        return keptResult(curveWithRoom((int) lead.a, (int) lead.b, 0));
    }

    public int counted(int what) {
        switch (what) {
            case 0:
                return curvesHeld;
            case 1:
                return spotsHeld;
            case 2:
                return pageLength;
            default:
                return NONE;
        }
    }

    public int octet(int k) {
        return k < 0 || k >= pageLength || k >= page.length ? NONE : page[k];
    }

    private Curve curveAt(int c) {
        Curve curve = c < 0 || c >= curvesHeld || c >= curves.length ? null : curves[c];
        if (curve == null) {
            throw new IndexOutOfBoundsException("no such cubic");
        }
        return curve;
    }

    private Curve wholeCurve(int c) {
        Curve curve = curveAt(c);
        if (!curve.isWhole()) {
            throw new IllegalArgumentException("the cubic is not whole");
        }
        return curve;
    }

    private Curve restCurve(int c) {
        Curve curve = curveAt(c);
        if (curve.isWhole()) {
            throw new IllegalArgumentException("the cubic is whole");
        }
        return curve;
    }

    private Curve listedCurve(int c) {
        Curve curve = restCurve(c);
        if (curve.p > LISTED_PRIME) {
            throw new IllegalArgumentException("p is above 2,000");
        }
        return curve;
    }

    private Spot spotAt(int p) {
        Spot spot = p < 0 || p >= spotsHeld || p >= spots.length ? null : spots[p];
        if (spot == null) {
            throw new IndexOutOfBoundsException("no such point");
        }
        return spot;
    }

    private int numberOfCurve(int a, int b, int p) {
        for (int i = 0; i < curvesHeld && i < curves.length; i++) {
            Curve curve = curves[i];
            if (curve != null && curve.a == a && curve.b == b && curve.p == p) {
                return i;
            }
        }
        return NONE;
    }

    private int keptCurve(int a, int b, int p) {
        int number = numberOfCurve(a, b, p);
        if (number != NONE) {
            return number;
        }
        if (curvesHeld >= CUBICS) {
            throw new IllegalStateException("there are 40 cubics already");
        }
        curves[curvesHeld] = new Curve(a, b, p);
        return curvesHeld++;
    }

    /** A new cubic's point is new too, so the room for both is looked at before either is kept. */
    private int curveWithRoom(int a, int b, int p) {
        if (numberOfCurve(a, b, p) == NONE && spotsHeld >= POINTS) {
            throw new IllegalStateException("there are 400 points already");
        }
        return keptCurve(a, b, p);
    }

    private int keptSpot(Spot spot) {
        for (int i = 0; i < spotsHeld && i < spots.length; i++) {
            if (spots[i] != null && spots[i].isLike(spot)) {
                return i;
            }
        }
        if (spotsHeld >= POINTS) {
            throw new IllegalStateException("there are 400 points already");
        }
        spots[spotsHeld] = spot.copied();
        return spotsHeld++;
    }

    private int keptRest(int c, long code) {
        asked.setRest(c, code);
        return keptSpot(asked);
    }

    private int keptResult(int c) {
        fractions.result.curve = c;
        return keptSpot(fractions.result);
    }

    private static boolean isFitPrime(int p) {
        if (p < LEAST_PRIME || p > GREATEST_PRIME) {
            return false;
        }
        for (int q = 2; q * q <= p; q++) {
            if (p % q == 0) {
                return false;
            }
        }
        return true;
    }

    private int orderOf(Spot spot, Curve curve) {
        return curve.isWhole()
                ? Torsion.orderOf(spot, curve.a)
                : (int) rests.leastMultiple(spot.code, curve);
    }

    private int pointsOf(Curve curve) {
        if (curve.points == 0 && curve.p <= LISTED_PRIME) {
            listing.readyFor(curve);
            curve.points = listing.held;
        }
        if (curve.points == 0) {
            curve.points = rests.countPoints(curve);
        }
        return curve.points;
    }

    private int paired(long first, long second, int n, Curve curve) {
        long p = curve.p;
        listing.readyFor(curve);
        firstChain.lay(first, n, curve);
        secondChain.lay(second, n, curve);
        for (int i = 0; i < listing.held; i++) {
            long shift = listing.codeAt(i);
            long turnedShift = Rests.mirrorOf(shift, p);
            long above = firstChain.valueAt(Rests.sumOf(second, shift, curve.a, p), p)
                    * secondChain.valueAt(turnedShift, p) % p;
            long below = firstChain.valueAt(shift, p)
                    * secondChain.valueAt(Rests.sumOf(first, turnedShift, curve.a, p), p) % p;
            if (above != 0 && below != 0) {
                return (int) Rests.ratio(above, below, p);
            }
        }
        return NONE;
    }

    /** One cubic; p is 0 of a whole one. */
    static final class Curve {
        private static final long TWELVE_CUBED = 1_728;

        final int a;
        final int b;
        final int p;
        /** N, once it has been worked out; 0 ahead of that. */
        int points;

        Curve(int a, int b, int p) {
            this.a = a;
            this.b = b;
            this.p = p;
        }

        static long worthOf(long a, long b, long p) {
            if (p == 0) {
                return 4 * a * a * a + 27 * b * b;
            }
            return (a * a % p * 4 % p * a + b * b % p * 27) % p;
        }

        boolean isWhole() {
            return p == 0;
        }

        long valueAt(long x) {
            if (p == 0) {
                return x * x * x + a * x + b;
            }
            return ((x * x % p + a) * x + b) % p;
        }

        boolean holds(long x, long y) {
            long square = p == 0 ? y * y : y * y % p;
            return square == valueAt(x);
        }

        long invariant() {
            if (p == 0) {
                return 0;
            }
            long cube = (long) a * a % p * a % p;
            return Rests.ratio(4 * TWELVE_CUBED * cube, worthOf(a, b, p), p);
        }
    }

    /**
     * One point. Over rests its code holds it. Over fractions x is r / (e e) and y is t / (e e e),
     * as the parts below of every point on a whole cubic are a square and a cube of one number.
     */
    static final class Spot {
        int curve;
        boolean far;
        long code;
        final Big r;
        final Big t;
        final Big e;

        Spot(int room) {
            r = new Big(room);
            t = new Big(room);
            e = new Big(room);
        }

        private Spot(Spot like) {
            curve = like.curve;
            far = like.far;
            code = like.code;
            r = new Big(like.r.length);
            t = new Big(like.t.length);
            e = new Big(like.e.length);
        }

        Spot copied() {
            Spot copy = new Spot(this);
            copy.set(this);
            return copy;
        }

        void set(Spot other) {
            curve = other.curve;
            far = other.far;
            code = other.code;
            r.set(other.r);
            t.set(other.t);
            e.set(other.e);
        }

        void setFar(int number, Curve on) {
            curve = number;
            beFar();
            code = on.isWhole() ? 0 : Rests.FAR;
        }

        void beFar() {
            far = true;
            code = 0;
            r.clear();
            t.clear();
            e.clear();
        }

        void setRest(int number, long newCode) {
            beFar();
            curve = number;
            far = newCode == Rests.FAR;
            code = newCode;
        }

        void setWhole(int number, long x, long y) {
            curve = number;
            far = false;
            code = 0;
            r.setLong(x);
            t.setLong(y);
            e.setLong(1);
        }

        boolean isLike(Spot other) {
            return curve == other.curve && far == other.far && code == other.code
                    && r.isLike(other.r) && t.isLike(other.t) && e.isLike(other.e);
        }
    }

    /** A whole number of either sign, nine digits to a part, the least part first. */
    static final class Big {
        static final int SMALL_ROOM = 16;
        static final int ROOM = 64;
        private static final int BASE = 1_000_000_000;
        private static final int DIGITS = 9;
        /** Far above the rounds that any division, root or common divisor of such numbers takes. */
        private static final int ROUNDS = 4_096;

        private final int[] parts;
        int length;
        boolean below;

        Big(int room) {
            parts = new int[room > 0 ? room : 1];
        }

        void clear() {
            length = 0;
            below = false;
        }

        void setLong(long value) {
            clear();
            long left = value < 0 ? -value : value;
            for (int i = 0; i < parts.length && left > 0; i++) {
                parts[i] = (int) (left % BASE);
                left /= BASE;
                length = i + 1;
            }
            below = value < 0;
        }

        void set(Big other) {
            length = Math.min(other.length, parts.length);
            System.arraycopy(other.parts, 0, parts, 0, length);
            below = other.below;
        }

        void turn() {
            below = !below && length > 0;
        }

        boolean isLike(Big other) {
            return below == other.below && compareSize(other) == 0;
        }

        boolean isWithin(long limit) {
            return length <= 2 && size() <= limit;
        }

        private long size() {
            long size = length > 1 ? (long) parts[1] * BASE : 0;
            return length > 0 ? size + parts[0] : size;
        }

        long value() {
            return below ? -size() : size();
        }

        int digits() {
            if (length == 0) {
                return 1;
            }
            int digits = (length - 1) * DIGITS;
            for (int top = parts[length - 1]; top > 0; top /= 10) {
                digits++;
            }
            return digits;
        }

        int compareSize(Big other) {
            if (length != other.length) {
                return length < other.length ? -1 : 1;
            }
            for (int i = length - 1; i >= 0; i--) {
                if (parts[i] != other.parts[i]) {
                    return parts[i] < other.parts[i] ? -1 : 1;
                }
            }
            return 0;
        }

        void setSum(Big x, Big y) {
            join(x, y, y.below);
        }

        void setDifference(Big x, Big y) {
            join(x, y, !y.below);
        }

        /** x, and y with the sign told here; both or either may be this number itself. */
        void join(Big x, Big y, boolean secondBelow) {
            boolean sign = x.below;
            if (x.below == secondBelow) {
                joinSizes(x, y);
            } else if (x.compareSize(y) >= 0) {
                takeSizes(x, y);
            } else {
                sign = secondBelow;
                takeSizes(y, x);
            }
            below = sign;
            trim();
        }

        private void joinSizes(Big x, Big y) {
            int longer = Math.max(x.length, y.length);
            int carry = 0;
            int i = 0;
            for (; i < longer && i < parts.length; i++) {
                int part = (i < x.length ? x.parts[i] : 0) + (i < y.length ? y.parts[i] : 0) + carry;
                carry = part >= BASE ? 1 : 0;
                parts[i] = part - carry * BASE;
            }
            if (carry > 0 && i < parts.length) {
                parts[i] = carry;
                i++;
            }
            length = i;
        }

        /** x is the one of greater size, or both are of one size. */
        private void takeSizes(Big x, Big y) {
            int longer = x.length;
            int borrow = 0;
            int i = 0;
            for (; i < longer && i < parts.length; i++) {
                int part = x.parts[i] - (i < y.length ? y.parts[i] : 0) - borrow;
                borrow = part < 0 ? 1 : 0;
                parts[i] = part + borrow * BASE;
            }
            length = i;
        }

        private void trim() {
            int longest = length;
            length = 0;
            for (int i = longest; i > 0 && length == 0; i--) {
                length = parts[i - 1] == 0 ? 0 : i;
            }
            below = below && length > 0;
        }

        /** Neither x nor y may be this number itself. */
        void setProduct(Big x, Big y) {
            int room = Math.min(x.length + y.length, parts.length);
            Arrays.fill(parts, 0, room, 0);
            for (int i = 0; i < x.length; i++) {
                long factor = x.parts[i];
                long carry = 0;
                int at = i;
                for (int j = 0; j < y.length && at < room; j++) {
                    long sum = parts[at] + factor * y.parts[j] + carry;
                    carry = sum / BASE;
                    parts[at] = (int) (sum - carry * BASE);
                    at++;
                }
                if (at < room) {
                    parts[at] = (int) carry;
                }
            }
            length = room;
            below = x.below != y.below;
            trim();
        }

        /** Leaves the rest by another number here, and what was taken out of it in quotient. */
        void reduceBy(Big by, Big quotient) {
            quotient.clear();
            if (by.length == 0) {
                return;
            }
            boolean sign = below != by.below;
            long byTop = by.topTwo();
            for (int i = 0; i < ROUNDS && compareSize(by) >= 0; i++) {
                int shift = length - by.length;
                long top = topTwo();
                long factor = top / (byTop + 1);
                if (top <= byTop && shift > 0) {
                    shift--;
                    factor = factorBelow(top, byTop);
                }
                // Every guess is too low, so the rest stays above 0; 1 always fits here.
                factor = Math.max(1, factor);
                takeTimes(by, factor, shift);
                quotient.raise(factor, shift);
            }
            quotient.below = sign && quotient.length > 0;
        }

        private long topTwo() {
            if (length == 0) {
                return 0;
            }
            return (long) parts[length - 1] * BASE + (length > 1 ? parts[length - 2] : 0);
        }

        /** Both tops are made longer alike, so that one part of the divisor is enough to guess by. */
        private long factorBelow(long top, long byTop) {
            long longer = BASE / (byTop / BASE + 1);
            long third = length > 2 ? parts[length - 3] : 0;
            long above = top * longer + third * longer / BASE;
            return above / ((byTop + 1) * longer / BASE + 1);
        }

        private void takeTimes(Big by, long factor, int shift) {
            long carry = 0;
            for (int i = 0; i + shift < length && (i < by.length || carry > 0); i++) {
                long taken = carry + (i < by.length ? by.parts[i] * factor : 0);
                carry = taken / BASE;
                int part = parts[i + shift] - (int) (taken - carry * BASE);
                if (part < 0) {
                    part += BASE;
                    carry++;
                }
                parts[i + shift] = part;
            }
            trim();
        }

        private void raise(long by, int shift) {
            for (int i = length; i <= shift && i < parts.length; i++) {
                parts[i] = 0;
                length = i + 1;
            }
            long carry = by;
            for (int i = shift; i < parts.length && carry > 0; i++) {
                long sum = carry + (i < length ? parts[i] : 0);
                carry = sum / BASE;
                parts[i] = (int) (sum - carry * BASE);
                length = Math.max(length, i + 1);
            }
        }

        void setCommonDivisor(Big x, Big y, Big spare, Big quotient) {
            set(x);
            spare.set(y);
            Big greater = this;
            Big lesser = spare;
            for (int i = 0; i < ROUNDS && lesser.length > 0; i++) {
                greater.reduceBy(lesser, quotient);
                Big rest = greater;
                greater = lesser;
                lesser = rest;
            }
            if (greater != this) {
                set(greater);
            }
            below = false;
        }

        /** The root by Newton's steps, which fall from a start above it until they rise. */
        void setRoot(Big square, Big spare, Big quotient) {
            clear();
            if (square.length == 0) {
                return;
            }
            long top = square.length % 2 == 0 ? square.topTwo() : square.parts[square.length - 1];
            raise(rootOf(top) + 1, (square.length - 1) / 2);
            for (int i = 0; i < ROUNDS; i++) {
                spare.set(square);
                spare.reduceBy(this, quotient);
                quotient.joinSizes(quotient, this);
                quotient.halve();
                if (quotient.compareSize(this) >= 0) {
                    break;
                }
                set(quotient);
            }
        }

        private void halve() {
            long carry = 0;
            for (int i = length - 1; i >= 0; i--) {
                long part = carry * BASE + parts[i];
                parts[i] = (int) (part / 2);
                carry = part % 2;
            }
            trim();
        }

        /** Writes the digits on a page from a place on, and tells the place behind them. */
        int write(byte[] page, int from) {
            int at = from;
            if (below && at < page.length) {
                page[at] = '-';
                at++;
            }
            int left = digits();
            for (int i = left - 1; i >= 0 && at < page.length; i--) {
                page[at] = (byte) ('0' + digitAt(i));
                at++;
            }
            return at;
        }

        private int digitAt(int place) {
            int part = place / DIGITS < length ? parts[place / DIGITS] : 0;
            for (int i = place % DIGITS; i > 0; i--) {
                part /= 10;
            }
            return part % 10;
        }

        /** The greatest whole number whose square is not above n. */
        static long rootOf(long n) {
            if (n <= 0) {
                return 0;
            }
            long root = 1L << (65 - Long.numberOfLeadingZeros(n)) / 2;
            for (int i = 0; i < ROUNDS; i++) {
                long next = (root + n / root) / 2;
                if (next >= root) {
                    break;
                }
                root = next;
            }
            return root;
        }
    }

    /** Sums of points over fractions, and their ways to other cubics. */
    static final class Fractions {
        private static final int MOST_DIGITS = 100;

        Spot result;
        private Spot next;
        private final Spot base;
        private final Big firstSquare;
        private final Big secondSquare;
        private final Big newSquare;
        private final Big rise;
        private final Big run;
        private final Big cut;
        private final Big top;
        private final Big bottom;
        private final Big common;
        private final Big one;
        private final Big two;
        private final Big three;
        private final Big four;
        private final Big factor;

        Fractions() {
            result = new Spot(Big.ROOM);
            next = new Spot(Big.ROOM);
            base = new Spot(Big.ROOM);
            firstSquare = new Big(Big.ROOM);
            secondSquare = new Big(Big.ROOM);
            newSquare = new Big(Big.ROOM);
            rise = new Big(Big.ROOM);
            run = new Big(Big.ROOM);
            cut = new Big(Big.ROOM);
            top = new Big(Big.ROOM);
            bottom = new Big(Big.ROOM);
            common = new Big(Big.ROOM);
            one = new Big(Big.ROOM);
            two = new Big(Big.ROOM);
            three = new Big(Big.ROOM);
            four = new Big(Big.ROOM);
            factor = new Big(Big.SMALL_ROOM);
        }

        /** Leaves the sum in result; false: it is SPENT. */
        boolean sum(Spot p, Spot q, Curve on) {
            if (p.far || q.far) {
                next.set(p.far ? q : p);
                return accept();
            }
            boolean sameX = p.r.isLike(q.r) && p.e.isLike(q.e);
            if (sameX && (p.t.length == 0 || !p.t.isLike(q.t))) {
                next.beFar();
                return accept();
            }
            firstSquare.setProduct(p.e, p.e);
            secondSquare.setProduct(q.e, q.e);
            if (sameX) {
                layTangent(p, on);
            } else {
                layChord(p, q, on);
            }
            if (!settle()) {
                return false;
            }
            setHeight(p, q);
            return next.t.digits() <= MOST_DIGITS && accept();
        }

        /** Goes up one by one, as the document wants it; false: one on the way is SPENT. */
        boolean multiple(Spot p, int n, Curve on) {
            base.set(p);
            if (n < 0) {
                base.t.turn();
            }
            result.set(base);
            if (n == 0) {
                result.beFar();
            }
            int most = Math.min(MOST_TIMES, Math.abs(n));
            for (int i = 1; i < most; i++) {
                if (!sum(result, base, on)) {
                    return false;
                }
            }
            return true;
        }

        /** Leaves the point that another one is led to in result; false: it is SPENT. */
        boolean carry(Spot q, Lead by) {
            firstSquare.setProduct(q.e, q.e);
            setScaled(one, firstSquare, by.x);
            secondSquare.setDifference(q.r, one);
            if (q.far || secondSquare.length == 0) {
                next.beFar();
                return accept();
            }
            layWay(q, by);
            if (!settle()) {
                return false;
            }
            one.setProduct(q.t, rise);
            two.setProduct(cut, cut);
            three.setProduct(two, cut);
            one.reduceBy(three, next.t);
            return next.t.digits() <= MOST_DIGITS && accept();
        }

        private boolean accept() {
            Spot old = result;
            result = next;
            next = old;
            result.code = 0;
            return true;
        }

        private void setScaled(Big target, Big number, long by) {
            factor.setLong(by);
            target.setProduct(number, factor);
        }

        private void addScaled(Big target, Big number, long by, Big spare) {
            setScaled(spare, number, by);
            target.join(target, spare, spare.below);
        }

        /** x of the sum is top / (run run), the slope is rise / (e1 e2 run). */
        private void layChord(Spot p, Spot q, Curve on) {
            one.setProduct(q.r, firstSquare);
            two.setProduct(p.r, secondSquare);
            run.setDifference(one, two);
            common.setSum(one, two);
            four.setProduct(firstSquare, secondSquare);
            one.setProduct(p.r, q.r);
            addScaled(one, four, on.a, three);
            top.setProduct(one, common);
            one.setProduct(four, four);
            addScaled(top, one, 2L * on.b, three);
            one.setProduct(p.t, q.t);
            two.setProduct(p.e, q.e);
            three.setProduct(one, two);
            addScaled(top, three, -2, four);
            one.setProduct(p.e, firstSquare);
            two.setProduct(q.t, one);
            one.setProduct(q.e, secondSquare);
            three.setProduct(p.t, one);
            rise.setDifference(two, three);
        }

        private void layTangent(Spot p, Curve on) {
            one.setProduct(p.t, p.e);
            setScaled(run, one, 2);
            one.setProduct(p.r, p.r);
            two.setProduct(firstSquare, firstSquare);
            setScaled(three, one, 3);
            addScaled(three, two, on.a, four);
            rise.setProduct(three, firstSquare);
            top.setProduct(one, one);
            three.setProduct(one, two);
            addScaled(top, three, -2L * on.a, four);
            three.setProduct(firstSquare, two);
            one.setProduct(p.r, three);
            addScaled(top, one, -8L * on.b, four);
            three.setProduct(two, two);
            addScaled(top, three, (long) on.a * on.a, four);
        }

        /** Here y is the point's own times rise / (run run run). */
        private void layWay(Spot q, Lead by) {
            run.setProduct(q.e, secondSquare);
            one.setProduct(secondSquare, secondSquare);
            top.setProduct(q.r, one);
            rise.setProduct(one, secondSquare);
            two.setProduct(firstSquare, firstSquare);
            three.setProduct(two, secondSquare);
            setScaled(four, three, by.v);
            top.setSum(top, four);
            rise.setDifference(rise, four);
            three.setProduct(two, firstSquare);
            setScaled(four, three, by.u);
            top.setSum(top, four);
            rise.setDifference(rise, four);
            rise.setDifference(rise, four);
        }

        /** Brings x to lowest terms; cut is what run loses on the way down to the new e. */
        private boolean settle() {
            bottom.setProduct(run, run);
            common.setCommonDivisor(top, bottom, one, two);
            one.set(top);
            one.reduceBy(common, next.r);
            one.set(bottom);
            one.reduceBy(common, newSquare);
            if (next.r.digits() > MOST_DIGITS || newSquare.digits() > MOST_DIGITS) {
                return false;
            }
            next.e.setRoot(newSquare, one, two);
            one.set(run);
            one.reduceBy(next.e, cut);
            two.setProduct(next.e, newSquare);
            next.far = false;
            return two.digits() <= MOST_DIGITS;
        }

        private void setHeight(Spot p, Spot q) {
            one.setProduct(p.r, newSquare);
            two.setProduct(next.r, firstSquare);
            three.setDifference(one, two);
            four.setProduct(rise, three);
            one.setProduct(p.t, newSquare);
            two.setProduct(q.e, run);
            three.setProduct(one, two);
            four.setDifference(four, three);
            one.setProduct(p.e, firstSquare);
            two.setProduct(one, q.e);
            three.setProduct(two, cut);
            four.reduceBy(three, next.t);
        }

        /** Writes x or y of a point that is not FAR on a page; tells how many bytes. */
        int write(Spot spot, boolean isX, Curve on, byte[] page) {
            if (!on.isWhole()) {
                one.setLong(isX ? Rests.xOf(spot.code) : Rests.yOf(spot.code));
                return one.write(page, 0);
            }
            int at = (isX ? spot.r : spot.t).write(page, 0);
            if (spot.e.isWithin(1) || at >= page.length) {
                return at;
            }
            page[at] = '/';
            one.setProduct(spot.e, spot.e);
            two.setProduct(one, spot.e);
            return (isX ? one : two).write(page, at + 1);
        }
    }

    /** Points of whole cubics that come back to FAR: their x and y are whole and small. */
    static final class Torsion {
        private static final int MOST_ORDER = 12;
        private static final int ROOM = 32;
        private static final long WIDEST_X = 20_000;
        private static final long WIDEST_Y = 2_100_000;
        private static final long FIRST_X = -110;
        /** Behind it a cubic only rises. */
        private static final long RISING_X = 200;

        private final long[] xs;
        private final long[] ys;
        int held;
        private Curve of;

        Torsion() {
            xs = new long[ROOM];
            ys = new long[ROOM];
        }

        long xAt(int k) {
            return k < 0 || k >= held || k >= xs.length ? 0 : xs[k];
        }

        long yAt(int k) {
            return k < 0 || k >= held || k >= ys.length ? 0 : ys[k];
        }

        static int orderOf(Spot spot, long a) {
            if (spot.far) {
                return 1;
            }
            boolean small = spot.e.isWithin(1) && spot.r.isWithin(WIDEST_X) && spot.t.isWithin(WIDEST_Y);
            return small ? orderAt(spot.r.value(), spot.t.value(), a) : 0;
        }

        /** A slope that is not whole leads to an x that is not: then no multiple comes back. */
        private static int orderAt(long x, long y, long a) {
            long nowX = x;
            long nowY = y;
            for (int n = 2; n <= MOST_ORDER; n++) {
                if (nowX == x && nowY == -y) {
                    return n;
                }
                long above = nowX == x ? 3 * x * x + a : nowY - y;
                long below = nowX == x ? 2 * y : nowX - x;
                if (below == 0 || above % below != 0) {
                    return 0;
                }
                long slope = above / below;
                long nextX = slope * slope - nowX - x;
                if (nextX < -WIDEST_X || nextX > WIDEST_X) {
                    return 0;
                }
                nowY = slope * (x - nextX) - y;
                nowX = nextX;
                if (nowY < -WIDEST_Y || nowY > WIDEST_Y) {
                    return 0;
                }
            }
            return 0;
        }

        void readyFor(Curve curve) {
            if (of == curve) {
                return;
            }
            of = curve;
            held = 1;
            long worth = Math.abs(Curve.worthOf(curve.a, curve.b, 0));
            for (long x = FIRST_X; x <= WIDEST_X; x++) {
                long value = curve.valueAt(x);
                if (value > worth && x > RISING_X) {
                    break;
                }
                if (value == 0 || value > 0 && worth % value == 0) {
                    keepAt(x, value, curve.a);
                }
            }
        }

        private void keepAt(long x, long square, long a) {
            long y = Big.rootOf(square);
            if (y * y != square || orderAt(x, y, a) == 0) {
                return;
            }
            keep(x, -y);
            if (y != 0) {
                keep(x, y);
            }
        }

        private void keep(long x, long y) {
            if (held >= 0 && held < xs.length && held < ys.length) {
                xs[held] = x;
                ys[held] = y;
                held++;
            }
        }
    }

    /** The points with small fractions of the latest search. */
    static final class Searching {
        private static final int FIRST_ROOM = 64;
        /** Bit k tells whether a square may leave k by 64. */
        private static final long SQUARES_BY_64 = 0x0202021202030213L;

        private int[] rs;
        private int[] ss;
        private long[] ts;
        int held;

        Searching() {
            rs = new int[FIRST_ROOM];
            ss = new int[FIRST_ROOM];
            ts = new long[FIRST_ROOM];
        }

        int run(Curve curve, int bound) {
            held = 0;
            for (int s = 1; s * s <= bound; s++) {
                long fourth = (long) s * s * s * s;
                long linear = curve.a * fourth;
                long constant = curve.b * fourth * s * s;
                for (int r = -bound; r <= bound; r++) {
                    long square = ((long) r * r + linear) * r + constant;
                    if (square >= 0 && (SQUARES_BY_64 >>> (square & 63) & 1) == 1) {
                        keepSquare(r, s, square);
                    }
                }
            }
            return held;
        }

        private void keepSquare(int r, int s, long square) {
            long t = Big.rootOf(square);
            if (t * t != square || Rests.commonDivisor(Math.abs(r), s) != 1) {
                return;
            }
            if (held >= rs.length) {
                rs = Arrays.copyOf(rs, 2 * held);
                ss = Arrays.copyOf(ss, 2 * held);
                ts = Arrays.copyOf(ts, 2 * held);
            }
            rs[held] = r;
            ss[held] = s;
            ts[held] = t;
            held++;
        }

        long partAt(int k, int what) {
            if (k < 0 || k >= held || k >= rs.length) {
                return 0;
            }
            if (what == 0) {
                return rs[k];
            }
            return what == 1 ? ss[k] : ts[k];
        }
    }

    /** Points over rests, each packed in one number: x above, y in the lowest 20 bits. */
    static final class Rests {
        static final long FAR = -1;
        private static final int Y_BITS = 20;
        private static final long Y_MASK = (1L << Y_BITS) - 1;
        private static final int EUCLID_STEPS = 64;
        private static final int STEPS_ROOM = 64;
        private static final long NO_STEP = Long.MIN_VALUE;
        /** Above the trials that any number up to some 1,003,000 needs. */
        private static final int TRIALS = 2_000;

        private final long[] steps;

        Rests() {
            steps = new long[STEPS_ROOM];
        }

        static long codeOf(long x, long y) {
            return x << Y_BITS | y;
        }

        static long xOf(long code) {
            return code >> Y_BITS;
        }

        static long yOf(long code) {
            return code & Y_MASK;
        }

        static long commonDivisor(long x, long y) {
            long greater = x;
            long lesser = y;
            for (int i = 0; i < 2 * EUCLID_STEPS && lesser != 0; i++) {
                long rest = greater % lesser;
                greater = lesser;
                lesser = rest;
            }
            return greater;
        }

        static long commonMultiple(long x, long y) {
            long divisor = commonDivisor(x, y);
            return divisor == 0 ? 0 : x / divisor * y;
        }

        /** above / below by the prime p; 0 if below is 0. */
        static long ratio(long above, long below, long p) {
            if (p <= 0) {
                return 0;
            }
            long greater = p;
            long lesser = Math.floorMod(below, p);
            long before = 0;
            long now = 1;
            for (int i = 0; i < EUCLID_STEPS && lesser > 0; i++) {
                long quotient = greater / lesser;
                long rest = greater - quotient * lesser;
                greater = lesser;
                lesser = rest;
                long next = before - quotient * now;
                before = now;
                now = next;
            }
            return Math.floorMod(above, p) * Math.floorMod(before, p) % p;
        }

        static boolean isSquare(long value, long p) {
            long power = 1;
            long base = value;
            for (long left = (p - 1) / 2; left > 0 && p > 0; left >>= 1) {
                power = (left & 1) == 1 ? power * base % p : power;
                base = base * base % p;
            }
            return power == 1;
        }

        static long leastNoSquare(long p) {
            for (long d = 2; d < p; d++) {
                if (!isSquare(d, p)) {
                    return d;
                }
            }
            return 0;
        }

        static long mirrorOf(long code, long p) {
            if (code == FAR || yOf(code) == 0) {
                return code;
            }
            return codeOf(xOf(code), p - yOf(code));
        }

        static long sumOf(long first, long second, long a, long p) {
            if (first == FAR) {
                return second;
            }
            if (second == FAR) {
                return first;
            }
            long x = xOf(first);
            long y = yOf(first);
            boolean sameX = x == xOf(second);
            if (p <= 0 || sameX && (y == 0 || y != yOf(second))) {
                return FAR;
            }
            long above = sameX ? 3 * x * x + a : yOf(second) - y;
            long below = sameX ? 2 * y : xOf(second) - x;
            long slope = ratio(above, below, p);
            long newX = Math.floorMod(slope * slope - x - xOf(second), p);
            long newY = Math.floorMod(slope * (x - newX) - y, p);
            return codeOf(newX, newY);
        }

        static long multiple(long code, long n, long a, long p) {
            long sum = FAR;
            long doubled = code;
            for (long left = n; left > 0; left >>= 1) {
                if ((left & 1) == 1) {
                    sum = sumOf(sum, doubled, a, p);
                }
                if (left > 1) {
                    doubled = sumOf(doubled, doubled, a, p);
                }
            }
            return sum;
        }

        /** The ORDER of a point, out of any number of times that leads it to FAR. */
        static long leastOf(long code, long some, long a, long p) {
            long least = some;
            long left = some;
            long trial = 2;
            for (int i = 0; i < TRIALS && left > 1; i++) {
                long prime = trial * trial > left ? left : trial;
                if (left % prime != 0) {
                    trial++;
                    continue;
                }
                left /= prime;
                if (multiple(code, least / prime, a, p) == FAR) {
                    least /= prime;
                }
            }
            return least;
        }

        long leastMultiple(long code, Curve on) {
            long some = on.points > 0 ? on.points : someMultiple(code, on.a, on.p);
            return leastOf(code, some, on.a, on.p);
        }

        /**
         * A number of times, above 0, that leads a point to FAR. N is one, and lies within h of
         * p + 1, h h at most 4 p: so small steps, and great ones from p + 1 on to both sides, meet.
         */
        private long someMultiple(long code, long a, long p) {
            long reach = Big.rootOf(4 * p);
            int most = (int) Math.min(Big.rootOf(reach) + 1, STEPS_ROOM - 1);
            long walked = FAR;
            for (int i = 1; i <= most && i < steps.length; i++) {
                walked = sumOf(walked, code, a, p);
                steps[i] = walked;
                if (walked == FAR) {
                    return i;
                }
            }
            long stride = 2L * most + 1;
            long leap = multiple(code, stride, a, p);
            long leapBack = mirrorOf(leap, p);
            long up = multiple(code, p + 1, a, p);
            long down = up;
            for (long far = 0; far <= reach + stride; far += stride) {
                long above = stepTo(up, most);
                if (above != NO_STEP && p + 1 + far - above > 0) {
                    return p + 1 + far - above;
                }
                long below = stepTo(down, most);
                if (below != NO_STEP && p + 1 - far - below > 0) {
                    return p + 1 - far - below;
                }
                up = sumOf(up, leap, a, p);
                down = sumOf(down, leapBack, a, p);
            }
            return 0;
        }

        /** Which small number of times, or of the mirror's times with a minus, a place is. */
        private long stepTo(long place, int most) {
            if (place == FAR) {
                return 0;
            }
            for (int i = 1; i <= most && i < steps.length; i++) {
                if (xOf(steps[i]) == xOf(place)) {
                    return steps[i] == place ? i : -i;
                }
            }
            return NO_STEP;
        }

        /**
         * N of a cubic with p above 457, where by Mestre's theorem the orders of its points and of
         * its turned one's points leave one N alone. With v the value at x, the point (x v, v v) is
         * on the cubic with a v v, which is like this one if v is a square, else like its turned one.
         */
        int countPoints(Curve of) {
            long p = of.p;
            long own = 1;
            long turnedOnes = 1;
            for (long x = 0; x < p; x++) {
                long v = of.valueAt(x);
                if (v == 0) {
                    continue;
                }
                long square = v * v % p;
                long code = codeOf(x * v % p, square);
                long a = of.a * square % p;
                long least = leastOf(code, someMultiple(code, a, p), a, p);
                if (isSquare(v, p)) {
                    own = commonMultiple(own, least);
                } else {
                    turnedOnes = commonMultiple(turnedOnes, least);
                }
                long only = onlyCount(own, turnedOnes, p);
                if (only > 0) {
                    return (int) only;
                }
            }
            return 0;
        }

        private static long onlyCount(long own, long turnedOnes, long p) {
            if (own <= 0 || turnedOnes <= 0) {
                return 0;
            }
            long reach = Big.rootOf(4 * p);
            long least = p + 1 - reach;
            long only = 0;
            for (long n = least + Math.floorMod(-least, own); n <= p + 1 + reach; n += own) {
                if ((2 * p + 2 - n) % turnedOnes == 0) {
                    if (only > 0) {
                        return 0;
                    }
                    only = n;
                }
            }
            return only;
        }
    }

    /** LIST and GROUP of one cubic, the latest that was asked for. */
    static final class Listing {
        /** N is at most p + 1 + 89 for p up to 2,000. */
        private static final int ROOM = 2_112;

        private final int[] roots;
        private final long[] codes;
        private final byte[] reached;
        int held;
        private Curve listed;
        private Curve grouped;
        int longest;
        int across;
        long firstMaker;
        long secondMaker;
        boolean hasSecond;

        Listing() {
            roots = new int[LISTED_PRIME];
            codes = new long[ROOM];
            reached = new byte[LISTED_PRIME];
        }

        long codeAt(int k) {
            return k < 0 || k >= held || k >= codes.length ? Rests.FAR : codes[k];
        }

        void readyFor(Curve curve) {
            int p = curve.p;
            if (listed == curve || p < LEAST_PRIME || p > roots.length) {
                return;
            }
            listed = curve;
            Arrays.fill(roots, 0, p, NONE);
            for (int y = p / 2; y >= 0; y--) {
                roots[y * y % p] = y;
            }
            held = 0;
            keep(Rests.FAR);
            for (int x = 0; x < p; x++) {
                int y = roots[(int) curve.valueAt(x)];
                if (y >= 0) {
                    keep(Rests.codeOf(x, y));
                }
                if (y > 0) {
                    keep(Rests.codeOf(x, p - y));
                }
            }
        }

        private void keep(long code) {
            if (held < codes.length) {
                codes[held] = code;
                held++;
            }
        }

        void groupFor(Curve curve) {
            readyFor(curve);
            if (grouped == curve) {
                return;
            }
            grouped = curve;
            longest = greatestOrder(curve);
            across = held / Math.max(1, longest);
            firstMaker = firstOfLongest(curve);
            reachAll(curve);
            hasSecond = false;
            for (int i = 0; i < held && !hasSecond; i++) {
                secondMaker = codes[i];
                hasSecond = isApart(secondMaker, curve);
            }
        }

        /**
         * The least number of times that leads all points to FAR is the greatest ORDER. Those that
         * any number of times leads there are all, or at most half of all: so half is enough to try.
         */
        private int greatestOrder(Curve curve) {
            long most = 1;
            for (int i = 0; i < held && most < held && 2 * i <= held; i++) {
                boolean mirrored = i > 0 && Rests.xOf(codes[i]) == Rests.xOf(codes[i - 1]);
                if (!mirrored && Rests.multiple(codes[i], most, curve.a, curve.p) != Rests.FAR) {
                    long least = Rests.leastOf(codes[i], held, curve.a, curve.p);
                    most = Rests.commonMultiple(most, least);
                }
            }
            return (int) most;
        }

        private long firstOfLongest(Curve curve) {
            for (int i = 0; i < held; i++) {
                if (Rests.leastOf(codes[i], longest, curve.a, curve.p) == longest) {
                    return codes[i];
                }
            }
            return Rests.FAR;
        }

        /** A point and its mirror are reached together, so x alone tells. */
        private void reachAll(Curve curve) {
            Arrays.fill(reached, (byte) 0);
            long walked = firstMaker;
            for (int i = 0; i < longest && walked != Rests.FAR; i++) {
                int x = (int) Rests.xOf(walked);
                if (x >= 0 && x < reached.length) {
                    reached[x] = 1;
                }
                walked = Rests.sumOf(walked, firstMaker, curve.a, curve.p);
            }
        }

        private boolean isApart(long code, Curve curve) {
            long walked = code;
            for (int i = 1; i < across; i++) {
                int x = (int) Rests.xOf(walked);
                if (walked == Rests.FAR || x < 0 || x >= reached.length || reached[x] != 0) {
                    return false;
                }
                walked = Rests.sumOf(walked, code, curve.a, curve.p);
            }
            return walked == Rests.FAR;
        }
    }

    /** The lines and uprights by which f(P, R) is told, laid once for P and used for every R. */
    static final class Chain {
        /** Two for each binary digit of a number up to 1,000,000. */
        private static final int ROOM = 40;
        private static final int ONE = 0;
        private static final int UPRIGHT = 1;
        private static final int SLANTED = 2;

        private final boolean[] squared;
        private final int[] kinds;
        private final long[] places;
        private final long[] slopes;
        private final long[] ends;
        private int held;

        Chain() {
            squared = new boolean[ROOM];
            kinds = new int[ROOM];
            places = new long[ROOM];
            slopes = new long[ROOM];
            ends = new long[ROOM];
        }

        void lay(long code, int n, Curve on) {
            held = 0;
            long walked = code;
            for (int bit = Integer.highestOneBit(n) >> 1; bit > 0; bit >>= 1) {
                walked = keep(walked, walked, true, on);
                if ((n & bit) != 0) {
                    walked = keep(walked, code, false, on);
                }
            }
        }

        private long keep(long first, long second, boolean squares, Curve on) {
            long sum = Rests.sumOf(first, second, on.a, on.p);
            if (held >= ROOM) {
                return sum;
            }
            squared[held] = squares;
            ends[held] = sum;
            places[held] = first == Rests.FAR ? second : first;
            kinds[held] = UPRIGHT;
            if (first == Rests.FAR && second == Rests.FAR) {
                kinds[held] = ONE;
            } else if (first != Rests.FAR && second != Rests.FAR && sum != Rests.FAR) {
                kinds[held] = SLANTED;
                slopes[held] = slope(first, second, on);
            }
            held++;
            return sum;
        }

        /** The slope of the line through two points whose sum is not FAR. */
        private static long slope(long first, long second, Curve on) {
            long x = Rests.xOf(first);
            if (first == second) {
                return Rests.ratio(3 * x * x + on.a, 2 * Rests.yOf(first), on.p);
            }
            return Rests.ratio(Rests.yOf(second) - Rests.yOf(first), Rests.xOf(second) - x, on.p);
        }

        /** f at a point; 0 if a function on the way is 0 there, or the point is FAR. */
        long valueAt(long code, long p) {
            if (code == Rests.FAR || p <= 0) {
                return 0;
            }
            long above = 1;
            long below = 1;
            for (int i = 0; i < held && i < ROOM; i++) {
                if (squared[i]) {
                    above = above * above % p;
                    below = below * below % p;
                }
                above = above * lineAt(i, code, p) % p;
                below = below * uprightAt(ends[i], code, p) % p;
            }
            return Rests.ratio(above, below, p);
        }

        private long lineAt(int i, long code, long p) {
            if (kinds[i] == ONE) {
                return 1;
            }
            long across = uprightAt(places[i], code, p);
            if (kinds[i] == UPRIGHT) {
                return across;
            }
            return Math.floorMod(Rests.yOf(code) - Rests.yOf(places[i]) - slopes[i] * across, p);
        }

        private static long uprightAt(long place, long code, long p) {
            return place == Rests.FAR ? 1 : Math.floorMod(Rests.xOf(code) - Rests.xOf(place), p);
        }
    }

    /** The latest POLYNOMIAL, and those that it is made of. */
    static final class Division {
        static final int MOST = 11;
        private static final int ROOM = 64;

        private final long[][] rows;
        private final long[] cubicSquare;
        private final long[] left;
        private final long[] right;
        private final long[] spare;
        private final int[] roots;
        private int rootsHeld;
        private boolean rootsKnown;
        private Curve of;
        private int known;
        private int latest;
        private int p;
        int degree;

        Division() {
            rows = new long[MOST + 1][ROOM];
            cubicSquare = new long[ROOM];
            left = new long[ROOM];
            right = new long[ROOM];
            spare = new long[ROOM];
            roots = new int[ROOM];
            degree = NONE;
        }

        void workOut(Curve curve, int n) {
            if (n < 1 || n > MOST || curve.p < LEAST_PRIME) {
                return;
            }
            if (of != curve) {
                of = curve;
                p = curve.p;
                begin(curve.a, curve.b);
                known = 4;
            }
            for (int k = known + 1; k <= n; k++) {
                if (k % 2 == 1) {
                    setOdd(k / 2);
                } else {
                    setEven(k / 2);
                }
                known = k;
            }
            latest = n;
            rootsKnown = false;
            degree = degreeOf(rows[n]);
        }

        private void begin(long a, long b) {
            for (int k = 0; k <= 4; k++) {
                Arrays.fill(rows[k], 0);
            }
            Arrays.fill(cubicSquare, 0);
            long square = a * a % p;
            rows[1][0] = 1;
            rows[2][0] = 2;
            long[] third = rows[3];
            third[4] = 3;
            third[2] = 6 * a % p;
            third[1] = 12 * b % p;
            third[0] = Math.floorMod(-square, p);
            long[] fourth = rows[4];
            fourth[6] = 4;
            fourth[4] = 20 * a % p;
            fourth[3] = 80 * b % p;
            fourth[2] = Math.floorMod(-20 * square, p);
            fourth[1] = Math.floorMod(-16 * a * b, p);
            fourth[0] = Math.floorMod(-32 * b * b - 4 * square * a, p);
            cubicSquare[6] = 1;
            cubicSquare[4] = 2 * a % p;
            cubicSquare[3] = 2 * b % p;
            cubicSquare[2] = square;
            cubicSquare[1] = 2 * a * b % p;
            cubicSquare[0] = b * b % p;
        }

        /** Row 2 m + 1; those of even numbers bring the cubic's square for their y's. */
        private void setOdd(int m) {
            System.arraycopy(rows[m + 2], 0, left, 0, ROOM);
            System.arraycopy(rows[m - 1], 0, right, 0, ROOM);
            for (int i = 0; i < 3; i++) {
                multiply(left, rows[m]);
                multiply(right, rows[m + 1]);
            }
            multiply(m % 2 == 0 ? left : right, cubicSquare);
            takeAway(rows[2 * m + 1]);
        }

        private void setEven(int m) {
            System.arraycopy(rows[m + 2], 0, left, 0, ROOM);
            System.arraycopy(rows[m - 2], 0, right, 0, ROOM);
            for (int i = 0; i < 2; i++) {
                multiply(left, rows[m - 1]);
                multiply(right, rows[m + 1]);
            }
            long[] row = rows[2 * m];
            takeAway(row);
            multiply(row, rows[m]);
            long half = (p + 1) / 2;
            for (int i = 0; i < ROOM; i++) {
                row[i] = row[i] * half % p;
            }
        }

        private void takeAway(long[] target) {
            for (int i = 0; i < ROOM; i++) {
                target[i] = Math.floorMod(left[i] - right[i], p);
            }
        }

        private void multiply(long[] target, long[] by) {
            Arrays.fill(spare, 0);
            int ownDegree = degreeOf(target);
            int byDegree = degreeOf(by);
            for (int i = 0; i <= ownDegree; i++) {
                for (int j = 0; j <= byDegree && i + j < ROOM; j++) {
                    spare[i + j] = (spare[i + j] + target[i] * by[j]) % p;
                }
            }
            System.arraycopy(spare, 0, target, 0, ROOM);
        }

        private static int degreeOf(long[] row) {
            for (int i = row.length - 1; i >= 0; i--) {
                if (row[i] != 0) {
                    return i;
                }
            }
            return NONE;
        }

        int coefficientAt(int k) {
            return k < 0 || k >= ROOM || latest == 0 ? 0 : (int) rows[latest][k];
        }

        int rootAt(int k) {
            if (degree == NONE) {
                return NONE;
            }
            if (!rootsKnown) {
                findRoots();
            }
            return k < 0 || k >= rootsHeld || k >= ROOM ? NONE : roots[k];
        }

        private void findRoots() {
            rootsKnown = true;
            rootsHeld = 0;
            long[] row = rows[latest];
            for (int x = 0; x < p && rootsHeld < ROOM; x++) {
                long value = 0;
                for (int i = degree; i >= 0; i--) {
                    value = (value * x + row[i]) % p;
                }
                if (value == 0) {
                    roots[rootsHeld] = x;
                    rootsHeld++;
                }
            }
        }
    }

    /** Where a point of ORDER 2 or 3 leads to. */
    static final class Lead {
        long a;
        long b;
        long x;
        long v;
        long u;

        /** 0, or the answer that led() gives instead of a cubic. */
        int workOut(Spot by, Curve from, int order) {
            if (order != 2 && order != 3) {
                return UNFIT;
            }
            int p = from.p;
            x = from.isWhole() ? by.r.value() : Rests.xOf(by.code);
            long y = from.isWhole() ? by.t.value() : Rests.yOf(by.code);
            long g = 3 * x * x + from.a;
            v = reduced(order == 2 ? g : 2 * g, p);
            u = reduced(order == 2 ? 0 : 4 * y * y, p);
            a = reduced(from.a - 5 * v, p);
            b = reduced(from.b - 7 * (u + x * v), p);
            boolean beyond = from.isWhole() && (a < -WIDEST || a > WIDEST || b < -WIDEST || b > WIDEST);
            return beyond || Curve.worthOf(a, b, p) == 0 ? BEYOND : 0;
        }

        private static long reduced(long value, int p) {
            return p <= 0 ? value : Math.floorMod(value, (long) p);
        }

        /** A point over rests led on its way. */
        long carried(long code, long p) {
            if (code == Rests.FAR || Rests.xOf(code) == x || p <= 0) {
                return Rests.FAR;
            }
            long inverse = Rests.ratio(1, Rests.xOf(code) - x, p);
            long square = inverse * inverse % p;
            long newX = (Rests.xOf(code) + v * inverse + u * square) % p;
            long factor = Math.floorMod(1 - v * square - 2 * (u * square % p) * inverse, p);
            return Rests.codeOf(newX, Rests.yOf(code) * factor % p);
        }
    }
}
