import java.lang.management.ManagementFactory;

/** The room of a run: what 512 of the dearest calls make, all together, in bytes. */
public final class RoomTest {
    /** 7.3 million fields and elements have 8 bytes each at most; a quarter of them is to be enough for any run. */
    private static final long MOST = 7300000L / 4 * 8;
    private static final int CALLS = 512;

    private RoomTest() {
    }

    private interface Call {
        long answer(SchoolHouse x, int n);
    }

    public static void main(String[] args) {
        Check.part("the room of a run");
        String school = "subject s ; room r 9 ; room q 9 ; staff t head : s ; staff u head : s ; staff v head : s ; group g 99 ; group h 9 ; course c 3 ; course d 3 ; "
            + "lesson l : s g t 3 ; lesson m : s h u 3 ; rule f ( n ) { for i to n { x = row ( 64 ) ; } give x ; } rule k ( n ) { for i to n { try { raise null ; } on null { } } } "
            + "rule d ( n ) { if n > 0 { give d ( n - 1 ) ; } for i to 99 { x = i ; } } ";
        spend("new objects of one and the same run", "", (x, n) -> n < 8 ? new SchoolHouse().count(0) : 0);
        spend("rows of runs", school, (x, n) -> x.run(0, 3000, n < 5 ? 1199 : 2, 0, 0, 0));
        spend("failures", school, (x, n) -> x.run(1, 3000, 900, 0, 0, 0));
        spend("rules in one another", school, (x, n) -> x.run(2, 3000, 7, 0, 0, 0));
        spend("standings", school, (x, n) -> n < 21 ? x.pupil(0, n) : x.stand(2, 3000));
        spend("marks", school, (x, n) -> n == 0 ? x.pupil(0, n) : x.marks(3, 0, 64));
        spend("searches", school, (x, n) -> x.build(10000));
        spend("cover", school, (x, n) -> n == 0 ? x.build(10000) : n == 1 ? x.absent(0, 0, 1) : x.cover(0));
        spend("choices", school, (x, n) -> n < 21 ? x.pupil(0, n) : n < 42 ? x.prefer(n - 18, n % 2) : n % 3 == 0 ? x.lottery(n) : n % 3 == 1 ? x.match(n % 2) : x.stable());
        spend("texts", "", (x, n) -> n % 2 == 0 ? x.feed(8, 0x7463656a627573L) : x.read());
        String large = "rule f(n){if n>0{v7=f(n-1);}" + "v%d=n;".repeat(180) + "}";
        Integer[] numbers = new Integer[180];
        for (int i = 0; i < 180; i++) numbers[i] = i;
        spend("many variables", String.format(large, (Object[]) numbers), (x, n) -> x.run(0, 3000, 7, 0, 0, 0));
        Check.finish();
    }

    private static void spend(String what, String text, Call call) {
        long before = allocated();
        SchoolHouse x = new SchoolHouse();
        long made = allocated() - before;
        Check.read(x, text);
        before = allocated();
        for (int n = 0; n < CALLS; n++) call.answer(x, n);
        made += allocated() - before;
        Check.due(what + " made " + made + " bytes, too many", made <= MOST ? 1 : 0, 1);
    }

    private static long allocated() {
        return ((com.sun.management.ThreadMXBean) ManagementFactory.getThreadMXBean()).getThreadAllocatedBytes(Thread.currentThread().getId());
    }
}
