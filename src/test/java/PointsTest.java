/** Promises 6 to 13, 28 and 29: far, point, add, mirror, times, order, told, print, counted, octet. */
public final class PointsTest {
    public static void main(String[] args) {
        farAndPoint();
        pointOfRests();
        addAndMirror();
        addOfRests();
        times();
        timesOfRests();
        spent();
        order();
        orderOfRests();
        told();
        print();
        countedAndOctet();
        Due.end();
    }

    private static CubicBench withCubic(int a, int b) {
        CubicBench bench = new CubicBench();
        bench.cubic(a, b);
        return bench;
    }

    private static void farAndPoint() {
        CubicBench bench = withCubic(0, 1);
        Due.is(0, "far", () -> bench.far(0));
        Due.is(0, "far again", () -> bench.far(0));
        Due.is(1, "point", () -> bench.point(0, 2, 3));
        Due.is(2, "point below", () -> bench.point(0, 2, -3));
        Due.is(1, "point again", () -> bench.point(0, 2, 3));
        Due.is(-1, "not on it", () -> bench.point(0, 2, 4));
        Due.is(3, "three points", () -> bench.counted(1));
        bench.cubic(0, -2);
        Due.is(3, "far of another", () -> bench.far(1));
        Due.is(-1, "not on the other", () -> bench.point(1, 2, 3));
        bench.cubic(0, 9);
        Due.is(4, "on another", () -> bench.point(2, -2, 1));
        Due.is(5, "the same x, y on another is another", () -> bench.point(bench.cubic(4, 17), -2, 1));
        bench.cubic(-10000, 0);
        Due.is(6, "0, 0", () -> bench.point(4, 0, 0));
        Due.is(7, "100, 0", () -> bench.point(4, 100, 0));
        Due.is(-1, "edge", () -> bench.point(0, 1000000, -1000000));
        Due.is(-1, "other edge", () -> bench.point(0, -1000000, 1000000));
        Due.argument("x above", () -> bench.point(0, 1000001, 0));
        Due.argument("x below", () -> bench.point(0, -1000001, 0));
        Due.argument("y above", () -> bench.point(0, 0, 1000001));
        Due.argument("y below", () -> bench.point(0, 0, Integer.MIN_VALUE));
        Due.index("point of none", () -> bench.point(5, 0, 1));
        Due.index("point of none, too wide", () -> bench.point(-1, 1000001, 1));
        Due.index("far of none", () -> bench.far(5));
        Due.index("far below", () -> bench.far(-1));
    }

    private static void pointOfRests() {
        CubicBench bench = withCubic(0, 1);
        bench.rest(0, 1000003);
        Due.is(0, "0, 1", () -> bench.point(1, 0, 1));
        Due.is(1, "greatest y", () -> bench.point(1, 0, 1000002));
        Due.is(2, "greatest x", () -> bench.point(1, 1000002, 0));
        Due.argument("x is p", () -> bench.point(1, 1000003, 0));
        Due.argument("x below", () -> bench.point(1, -1, 0));
        Due.argument("y is p", () -> bench.point(1, 0, 1000003));
        Due.argument("y below", () -> bench.point(1, 0, -1));
        bench.rest(0, 5);
        Due.is(3, "2, 2 by 5", () -> bench.point(2, 2, 2));
        Due.is(-1, "2, 1 by 5", () -> bench.point(2, 2, 1));
        Due.argument("x 5 by 5", () -> bench.point(2, 5, 1));
        Due.is(4, "far of rests", () -> bench.far(2));
    }

    private static void addAndMirror() {
        CubicBench bench = withCubic(0, -2);
        bench.point(0, 3, 5);
        Due.is(1, "twice", () -> bench.add(0, 0));
        bench.print(1, 0);
        Due.text("129/100", "x of twice", bench);
        bench.print(1, 1);
        Due.text("-383/1000", "y of twice", bench);
        Due.is(2, "three times", () -> bench.add(0, 1));
        Due.is(2, "three times from the other side", () -> bench.add(1, 0));
        bench.print(2, 0);
        Due.text("164323/29241", "x of three times", bench);
        bench.print(2, 1);
        Due.text("-66234835/5000211", "y of three times", bench);
        Due.is(3, "mirror", () -> bench.mirror(0));
        Due.is(0, "mirror of the mirror", () -> bench.mirror(3));
        Due.is(4, "with its mirror", () -> bench.add(0, 3));
        Due.is(1, "that is far", () -> bench.told(4, 1));
        Due.is(4, "far and far", () -> bench.add(4, 4));
        Due.is(2, "far and other", () -> bench.add(4, 2));
        Due.is(2, "other and far", () -> bench.add(2, 4));
        Due.is(4, "mirror of far", () -> bench.mirror(4));
        Due.is(1, "three times less one", () -> bench.add(2, 3));
        bench.cubic(0, 1);
        bench.point(1, -1, 0);
        Due.is(5, "mirror of a point without height", () -> bench.mirror(5));
        Due.is(6, "twice a point without height", () -> bench.add(5, 5));
        Due.is(1, "is far", () -> bench.told(6, 1));
        Due.is(-1, "not of one cubic", () -> bench.add(0, 5));
        Due.is(-1, "fars of two cubics", () -> bench.add(4, 6));
        Due.index("add none", () -> bench.add(0, 7));
        Due.index("add none first", () -> bench.add(-1, 0));
        Due.index("mirror none", () -> bench.mirror(7));
        Due.index("mirror below", () -> bench.mirror(-1));
    }

    private static void addOfRests() {
        CubicBench bench = withCubic(1, 1);
        bench.rest(0, 5);
        bench.point(1, 0, 1);
        Due.is(1, "twice", () -> bench.add(0, 0));
        bench.print(1, 0);
        Due.text("4", "x of twice by 5", bench);
        bench.print(1, 1);
        Due.text("2", "y of twice by 5", bench);
        Due.is(2, "three times", () -> bench.add(1, 0));
        bench.print(2, 0);
        Due.text("2", "x of three times by 5", bench);
        bench.print(2, 1);
        Due.text("1", "y of three times by 5", bench);
        Due.is(3, "mirror", () -> bench.mirror(2));
        bench.print(3, 1);
        Due.text("4", "y of the mirror", bench);
        Due.is(4, "with its mirror", () -> bench.add(3, 2));
        Due.is(1, "is far", () -> bench.told(4, 1));
        Due.is(4, "mirror of far", () -> bench.mirror(4));
        Due.is(3, "far and other", () -> bench.add(4, 3));
        bench.far(0);
        Due.is(-1, "whole far and far of rests", () -> bench.add(4, 5));
    }

    private static void times() {
        CubicBench bench = withCubic(0, -2);
        bench.point(0, 3, 5);
        Due.is(0, "once", () -> bench.times(0, 1));
        Due.is(1, "twice", () -> bench.times(0, 2));
        Due.is(2, "three times", () -> bench.times(0, 3));
        bench.print(2, 0);
        Due.text("164323/29241", "x of three times", bench);
        Due.is(3, "none", () -> bench.times(0, 0));
        Due.is(1, "is far", () -> bench.told(3, 1));
        Due.is(4, "less one", () -> bench.times(0, -1));
        Due.is(4, "is the mirror", () -> bench.mirror(0));
        Due.is(5, "less three", () -> bench.times(0, -3));
        Due.is(3, "three and less three", () -> bench.add(2, 5));
        Due.is(3, "of far", () -> bench.times(3, 20));
        Due.is(3, "of far below", () -> bench.times(3, -20));
        Due.is(-2, "20 times is spent", () -> bench.times(0, 20));
        Due.is(-2, "less 20 times is spent", () -> bench.times(0, -20));
        Due.is(6, "spent ones are not kept", () -> bench.counted(1));
        Due.argument("21", () -> bench.times(0, 21));
        Due.argument("-21", () -> bench.times(0, -21));
        Due.argument("least int", () -> bench.times(0, Integer.MIN_VALUE));
        Due.index("none", () -> bench.times(6, 2));
        Due.index("none, and too often", () -> bench.times(-1, 99));
        bench.cubic(0, 1);
        bench.point(1, 2, 3);
        Due.is(6, "7 times a point of order 6", () -> bench.times(6, 7));
        Due.is(6, "-17 times it", () -> bench.times(6, -17));
        Due.is(7, "18 times it", () -> bench.times(6, 18));
        Due.is(1, "is far", () -> bench.told(7, 1));
    }

    private static void timesOfRests() {
        CubicBench bench = withCubic(1, 1);
        bench.rest(0, 5);
        bench.point(1, 0, 1);
        Due.is(0, "once", () -> bench.times(0, 1));
        Due.is(0, "10 times, order 9", () -> bench.times(0, 10));
        Due.is(0, "-8 times", () -> bench.times(0, -8));
        Due.is(1, "9 times", () -> bench.times(0, 9));
        Due.is(1, "is far", () -> bench.told(1, 1));
        Due.is(2, "twice", () -> bench.times(0, 2));
        Due.is(0, "greatest int, by 9 it is 1", () -> bench.times(0, Integer.MAX_VALUE));
        Due.is(3, "least int, by 9 it is -2", () -> bench.times(0, Integer.MIN_VALUE));
        Due.is(3, "-2 times", () -> bench.times(0, -2));
        Due.is(1, "0 times", () -> bench.times(0, 0));
    }

    /** 14 times (2, 1) has exactly 100 digits in its longest part, 14 times (3, 3) has 101. */
    private static void spent() {
        CubicBench bench = withCubic(-11, 15);
        bench.point(0, 2, 1);
        bench.point(0, 3, 3);
        Due.is(2, "times 14: 100 digits", () -> bench.times(0, 14));
        Due.is(3, "its mirror", () -> bench.times(0, -14));
        Due.is(-2, "times 14: 101 digits", () -> bench.times(1, 14));
        int seven = bench.times(1, 7);
        Due.is(-2, "add: 101 digits", () -> bench.add(seven, seven));
        int other = bench.times(0, 7);
        Due.is(2, "add: 100 digits", () -> bench.add(other, other));
        Due.is(-2, "twice that", () -> bench.add(2, 2));
        Due.is(-2, "more than 100 digits", () -> bench.add(2, 0));
        int thirteen = bench.times(0, 13);
        Due.is(thirteen, "one less", () -> bench.add(2, bench.mirror(0)));
        Due.is(0, "a long sum that is short", () -> bench.add(2, bench.mirror(thirteen)));
    }

    private static void order() {
        CubicBench bench = withCubic(0, 1);
        bench.far(0);
        bench.point(0, -1, 0);
        bench.point(0, 0, 1);
        bench.point(0, 2, 3);
        Due.is(1, "far", () -> bench.order(0));
        Due.is(2, "order 2", () -> bench.order(1));
        Due.is(3, "order 3", () -> bench.order(2));
        Due.is(6, "order 6", () -> bench.order(3));
        bench.cubic(0, -2);
        bench.point(1, 3, 5);
        Due.is(0, "never back", () -> bench.order(4));
        bench.times(4, 2);
        Due.is(0, "a fraction", () -> bench.order(5));
        bench.cubic(-43, 166);
        bench.point(2, 3, 8);
        Due.is(7, "order 7", () -> bench.order(6));
        bench.cubic(-219, 1654);
        bench.backAt(3, 1);
        Due.is(9, "order 9", () -> bench.order(7));
        bench.cubic(4, 0);
        bench.point(4, 2, 4);
        Due.is(4, "order 4", () -> bench.order(8));
        bench.cubic(-432, 8208);
        bench.point(5, 24, 108);
        Due.is(5, "order 5", () -> bench.order(9));
        Due.index("order of none", () -> bench.order(10));
        Due.index("order below", () -> bench.order(-1));
    }

    private static void orderOfRests() {
        CubicBench bench = withCubic(1, 1);
        bench.rest(0, 23);
        int[] due = {1, 28, 28, 28, 28, 28, 28, 2, 7, 7, 14, 14, 14, 14, 28, 28, 4, 4, 14, 14, 7, 7, 7, 7, 28, 28, 28, 28};
        for (int k = 0; k < due.length; k++) {
            int p = bench.list(1, k);
            Due.is(due[k], "order of " + k + " by 23", () -> bench.order(p));
        }
        bench.rest(0, 1000003);
        int q = bench.point(2, 0, 1);
        int order = bench.order(q);
        Due.is(0, "N is a multiple", () -> bench.count(2) % order);
        Due.is(1, "it comes back", () -> bench.told(bench.times(q, order), 1));
        for (int prime = 2; prime <= order; prime++) {
            if (order % prime == 0 && java.math.BigInteger.valueOf(prime).isProbablePrime(30)) {
                int n = order / prime;
                Due.is(0, "not earlier", () -> bench.told(bench.times(q, n), 1));
            }
        }
    }

    private static void told() {
        CubicBench bench = withCubic(0, 1);
        bench.cubic(0, 4);
        bench.point(0, 2, 3);
        bench.point(1, 0, 2);
        bench.far(1);
        Due.is(0, "cubic of 0", () -> bench.told(0, 0));
        Due.is(1, "cubic of 1", () -> bench.told(1, 0));
        Due.is(1, "cubic of far", () -> bench.told(2, 0));
        Due.is(0, "far of 0", () -> bench.told(0, 1));
        Due.is(1, "far of far", () -> bench.told(2, 1));
        Due.argument("told 2", () -> bench.told(0, 2));
        Due.argument("told -1", () -> bench.told(2, -1));
        Due.index("told of none", () -> bench.told(3, 0));
        Due.index("told of none, another what", () -> bench.told(-1, 2));
    }

    private static void print() {
        CubicBench bench = withCubic(0, 1);
        bench.point(0, -1, 0);
        bench.far(0);
        Due.is(2, "-1", () -> bench.print(0, 0));
        Due.text("-1", "x", bench);
        Due.is(1, "0", () -> bench.print(0, 1));
        Due.text("0", "y", bench);
        Due.is(-1, "far", () -> bench.print(1, 0));
        Due.text("0", "the page stays", bench);
        Due.argument("print 2", () -> bench.print(0, 2));
        Due.argument("print -1", () -> bench.print(0, -1));
        Due.argument("print 2 of far", () -> bench.print(1, 2));
        Due.index("print of none", () -> bench.print(2, 0));
        Due.index("print of none, another what", () -> bench.print(-1, 7));
        Due.text("0", "the page stays behind throws", bench);
        bench.cubic(-11, 15);
        bench.point(1, 2, 1);
        bench.times(2, 14);
        bench.print(3, 1);
        Due.is(100, "digits of the longest part", () -> longestPart(bench));
        bench.print(2, 0);
        Due.text("2", "a short one behind a long one", bench);
        bench.cubic(0, 17);
        bench.point(2, 5234, 378661);
        Due.is(6, "378661", () -> bench.print(4, 1));
        Due.text("378661", "a long whole y", bench);
        bench.mirror(4);
        Due.is(7, "-378661", () -> bench.print(5, 1));
        Due.text("-378661", "a long whole y below", bench);
        bench.rest(2, 1000003);
        bench.point(3, 999999, 0);
        bench.point(3, 5234, 378661);
        bench.mirror(6);
        Due.is(6, "mirror by p", () -> bench.print(7, 1));
        Due.text("621342", "mirror by p", bench);
    }

    private static int longestPart(CubicBench bench) {
        StringBuilder text = new StringBuilder();
        for (int k = 0; k < bench.counted(2); k++) {
            text.append((char) bench.octet(k));
        }
        int longest = 0;
        for (String part : text.toString().replace("-", "").split("/")) {
            longest = Math.max(longest, part.length());
        }
        return longest;
    }

    private static void countedAndOctet() {
        CubicBench bench = withCubic(0, 1);
        bench.cubic(0, 2);
        bench.point(0, 2, -3);
        bench.point(0, 2, 3);
        bench.far(1);
        bench.print(0, 1);
        Due.is(2, "cubics", () -> bench.counted(0));
        Due.is(3, "points", () -> bench.counted(1));
        Due.is(2, "bytes", () -> bench.counted(2));
        Due.is(-1, "counted 3", () -> bench.counted(3));
        Due.is(-1, "counted -1", () -> bench.counted(-1));
        Due.is('-', "byte 0", () -> bench.octet(0));
        Due.is('3', "byte 1", () -> bench.octet(1));
        Due.is(-1, "byte 2", () -> bench.octet(2));
        Due.is(-1, "byte -1", () -> bench.octet(-1));
        Due.is(-1, "byte 300", () -> bench.octet(300));
        Due.is(-1, "greatest byte", () -> bench.octet(Integer.MAX_VALUE));
        Due.is(-1, "least byte", () -> bench.octet(Integer.MIN_VALUE));
    }
}
