import java.util.Random;

/** The reals, which are reckoned in whole numbers, against those of the machine. */
public final class RealsTest {
    private static final double[] EDGES = {0.0, 1.0, 2.0, 3.0, 0.5, 0.1, 1e300, 1e-300, 1e308, Double.MAX_VALUE, Double.MIN_VALUE,
        Double.MIN_NORMAL, Math.nextDown(Double.MIN_NORMAL), Double.POSITIVE_INFINITY, Double.NaN, 2147483647.0, 2147483648.0,
        2147483648.5, 4503599627370496.0, 9007199254740991.0, 9007199254740992.0, 1.5, 1e-320, Math.nextUp(1.0), Math.nextDown(1.0)};

    private RealsTest() {
    }

    public static void main(String[] args) {
        Random r = new Random(1);
        for (double a : EDGES) {
            for (double b : EDGES) {
                pair(a, b);
                pair(-a, b);
                pair(a, -b);
                pair(-a, -b);
            }
        }
        for (int i = 0; i < 400000; i++) {
            double a = some(r);
            double b = r.nextInt(4) == 0 ? near(a, r) : some(r);
            pair(a, b);
        }
        for (int i = 0; i < 100000; i++) decimals(r);
        Check.finish();
    }

    private static double some(Random r) {
        switch (r.nextInt(6)) {
            case 0: return Double.longBitsToDouble(r.nextLong());
            case 1: return EDGES[r.nextInt(EDGES.length)];
            case 2: return r.nextInt();
            case 3: return Double.longBitsToDouble(r.nextLong() >>> 12 + r.nextInt(52));
            case 4: return (r.nextInt(2000) - 1000) / 8.0;
            default: return Double.longBitsToDouble(r.nextLong() & 0x800fffffffffffffL | (long) (1000 + r.nextInt(60)) << 52);
        }
    }

    private static double near(double a, Random r) {
        return Double.longBitsToDouble(Double.doubleToLongBits(-a) + r.nextInt(5) - 2);
    }

    private static void pair(double a, double b) {
        long x = Double.doubleToLongBits(a);
        long y = Double.doubleToLongBits(b);
        String call = " of " + a + " and " + b;
        same("plus" + call, SchoolHouse.Reals.plus(x, y), a + b);
        same("minus" + call, SchoolHouse.Reals.plus(x, SchoolHouse.Reals.negated(y)), a - b);
        same("times" + call, SchoolHouse.Reals.times(x, y), a * b);
        same("divided" + call, SchoolHouse.Reals.divided(x, y), a / b);
        same("rest" + call, SchoolHouse.Reals.rest(x, y), a % b);
        same("negated" + call, SchoolHouse.Reals.negated(x), -a);
        Check.due("isLess" + call, SchoolHouse.Reals.isLess(x, y) ? 1 : 0, a < b ? 1 : 0);
        Check.due("isLike" + call, SchoolHouse.Reals.isLike(x, y) ? 1 : 0, a == b ? 1 : 0);
        Check.due("isNan" + call, SchoolHouse.Reals.isNan(x) ? 1 : 0, a != a ? 1 : 0);
        Check.due("toWhole" + call, SchoolHouse.Reals.toWhole(x), (int) a);
        same("fromWhole" + call, SchoolHouse.Reals.fromWhole((int) a), (double) (int) a);
    }

    private static void same(String call, long got, double want) {
        Check.due(call, got, Double.doubleToLongBits(want));
    }

    private static void decimals(Random r) {
        int places = 1 + r.nextInt(4);
        int ahead = r.nextInt(1000000);
        String text = ahead + "." + String.format("%04d", r.nextInt(10000)).substring(0, places);
        same(text, SchoolHouse.Reals.decimal(Long.parseLong(text.replace(".", "")), places), Double.parseDouble(text));
    }
}
