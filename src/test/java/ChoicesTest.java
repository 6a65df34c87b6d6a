/** Promises 23 to 28: ranks, lotteries, offers and trades, what is stable. */
public final class ChoicesTest {
    private ChoicesTest() {
    }

    public static void main(String[] args) {
        prefer();
        lottery();
        offers();
        trades();
        placed();
        stable();
        Check.finish();
    }

    private static SchoolHouse school(int pupils, int... places) {
        StringBuilder b = new StringBuilder("group g 99 ; ");
        for (int i = 0; i < places.length; i++) b.append("course c").append(i).append(' ').append(places[i]).append(" ; ");
        SchoolHouse x = Check.school(b.toString());
        for (int i = 0; i < pupils; i++) x.pupil(0, 0);
        return x;
    }

    private static void ranks(SchoolHouse x, int p, int... courses) {
        for (int c : courses) x.prefer(p, c);
    }

    private static void places(SchoolHouse x, int... due) {
        for (int p = 0; p < due.length; p++) Check.due("placed " + p, x.placed(p), due[p]);
    }

    private static int ticket(int seed, int p, int c) {
        int h = seed ^ (16 * p + c) * 0x9E3779B1;
        h = (h ^ h >>> 15) * 0x85EBCA77;
        return h ^ h >>> 13;
    }

    /** A seed by whose lottery the pupils come into a course in such an order. */
    private static int seedFor(int course, int... order) {
        for (int seed = 0; seed < 1000000; seed++) {
            boolean fits = true;
            for (int i = 1; i < order.length; i++) fits &= ticket(seed, order[i - 1], course) < ticket(seed, order[i], course);
            if (fits) return seed;
        }
        throw new IllegalStateException("no such seed");
    }

    private static void prefer() {
        Check.part("promise 23");
        SchoolHouse x = school(2, 1, 1, 1);
        x.parent(0);
        Check.due("nobody", x.prefer(3, 0), -1);
        Check.due("nobody", x.prefer(-1, 0), -1);
        Check.due("no course", x.prefer(0, 3), -1);
        Check.due("no course", x.prefer(2, -1), -1);
        Check.due("a parent", x.prefer(2, 0), -2);
        Check.due("first", x.prefer(0, 2), 1);
        Check.due("again", x.prefer(0, 2), -2);
        Check.due("second", x.prefer(0, 0), 2);
        Check.due("third", x.prefer(0, 1), 3);
        Check.due("again", x.prefer(0, 0), -2);
        Check.due("another", x.prefer(1, 1), 1);
    }

    private static void lottery() {
        Check.part("promise 24");
        SchoolHouse x = school(3, 1, 1);
        x.parent(0);
        Check.due("none yet", x.ticket(0, 0), 0);
        Check.due("three", x.lottery(5), 3);
        Check.part("promise 25");
        // worked by hand: seed 0, person 0, course 0 is 0; seed 0, person 0, course 1
        for (int p = 0; p < 3; p++) {
            for (int c = 0; c < 2; c++) Check.due("ticket", x.ticket(p, c), ticket(5, p, c));
        }
        Check.due("a parent", x.ticket(3, 0), 0);
        Check.due("nobody", x.ticket(4, 0), 0);
        Check.due("nobody", x.ticket(-1, 0), 0);
        Check.due("no course", x.ticket(0, 2), 0);
        Check.due("no course", x.ticket(0, -1), 0);
        x.pupil(0, 0);
        Check.due("behind the lottery", x.ticket(4, 0), 0);
        Check.due("four", x.lottery(-1), 4);
        Check.due("ticket", x.ticket(4, 1), ticket(-1, 4, 1));
        Check.due("seed 0", x.lottery(0), 4);
        Check.due("ticket", x.ticket(0, 0), 0);
        Check.due("no pupils", new SchoolHouse().lottery(1), 0);
    }

    private static void offers() {
        Check.part("promise 26, offers");
        SchoolHouse x = school(3, 1, 1);
        Check.due("way", x.match(2), -1);
        Check.due("way", x.match(-1), -1);
        Check.due("none there", x.stable(), -2);
        Check.due("nobody asks", x.match(0), 0);
        ranks(x, 0, 0, 1);
        ranks(x, 1, 0, 1);
        ranks(x, 2, 0);
        // without a lottery the lesser number
        Check.due("offers", x.match(0), 2);
        places(x, 0, 1, -9);
        x.lottery(seedFor(0, 2, 1, 0));
        Check.due("offers", x.match(0), 2);
        int last = x.ticket(0, 1) < x.ticket(1, 1) ? 0 : 1;
        places(x, last == 0 ? 1 : -9, last == 0 ? -9 : 1, 0);
        // one who is put out asks on, and puts out another
        x = school(3, 1, 1, 1);
        ranks(x, 0, 1, 2);
        ranks(x, 1, 0, 1);
        ranks(x, 2, 0);
        x.lottery(both(0, 2, 1, 1, 1, 0));
        Check.due("offers", x.match(0), 3);
        places(x, 2, 1, 0);
        x = school(4, 2);
        for (int p = 0; p < 4; p++) ranks(x, p, 0);
        Check.due("offers", x.match(0), 2);
        places(x, 0, 0, -9, -9);
    }

    /** A seed by which one comes ahead of another in each of two courses. */
    private static int both(int c, int first, int second, int d, int third, int fourth) {
        for (int seed = 0; seed < 1000000; seed++) {
            if (ticket(seed, first, c) < ticket(seed, second, c) && ticket(seed, third, d) < ticket(seed, fourth, d)) return seed;
        }
        throw new IllegalStateException("no such seed");
    }

    private static void trades() {
        Check.part("promise 26, trades");
        // each wants the course that takes the other one first
        SchoolHouse x = school(2, 1, 1);
        ranks(x, 0, 0, 1);
        ranks(x, 1, 1, 0);
        x.lottery(both(0, 1, 0, 1, 0, 1));
        Check.due("trades", x.match(1), 2);
        places(x, 0, 1);
        Check.due("stable", x.stable(), 0);
        // 0 and 1 trade places in the first round; 2, who comes first for course 2 only, wanted 0: offers would give it
        x = school(3, 1, 1, 1);
        ranks(x, 0, 0, 1, 2);
        ranks(x, 1, 1, 0, 2);
        ranks(x, 2, 0, 2);
        int seed = -1;
        for (int s = 0; s < 1000000 && seed < 0; s++) {
            boolean zero = ticket(s, 1, 0) < ticket(s, 2, 0) && ticket(s, 2, 0) < ticket(s, 0, 0);
            boolean one = ticket(s, 0, 1) < ticket(s, 1, 1) && ticket(s, 0, 1) < ticket(s, 2, 1);
            if (zero && one) seed = s;
        }
        x.lottery(seed);
        Check.due("trades", x.match(1), 3);
        places(x, 0, 1, 2);
        Check.due("2 wants course 0", x.stable(), 201);
        Check.due("offers", x.match(0), 3);
        Check.due("stable", x.stable(), 0);
        // a course points to one who has not ranked it
        x = school(2, 1, 1);
        ranks(x, 0, 1);
        ranks(x, 1, 0, 1);
        Check.due("trades", x.match(1), 2);
        places(x, 1, 0);
        // who has nothing left goes away, and is pointed to no more
        x = school(3, 1);
        ranks(x, 1, 0);
        ranks(x, 2, 0);
        Check.due("trades", x.match(1), 1);
        places(x, -9, 0, -9);
        x = school(3, 1, 1);
        ranks(x, 0, 0);
        ranks(x, 1, 0);
        ranks(x, 2, 0, 1);
        Check.due("trades", x.match(1), 2);
        places(x, 0, -9, 1);
        x = school(4, 2);
        for (int p = 0; p < 4; p++) ranks(x, p, 0);
        Check.due("trades", x.match(1), 2);
        places(x, 0, 0, -9, -9);
    }

    private static void placed() {
        Check.part("promise 27");
        SchoolHouse x = school(1, 1);
        x.parent(0);
        x.prefer(0, 0);
        Check.due("nobody", x.placed(2), -1);
        Check.due("nobody", x.placed(-1), -1);
        Check.due("no match yet", x.placed(0), -9);
        x.match(0);
        Check.due("placed", x.placed(0), 0);
        Check.due("a parent", x.placed(1), -9);
        x.match(5);
        Check.due("refused", x.placed(0), 0);
        x.pupil(0, 0);
        Check.due("behind the match", x.placed(2), -9);
    }

    private static void stable() {
        Check.part("promise 28");
        SchoolHouse x = school(3, 1, 1);
        Check.due("none", x.stable(), -2);
        x.match(0);
        Check.due("nobody wants", x.stable(), 0);
        // by the ranks as they are now
        x.prefer(1, 1);
        Check.due("1 wants 1", x.stable(), 102);
        x.prefer(1, 0);
        Check.due("1 wants 0 and 1", x.stable(), 101);
        x.prefer(0, 1);
        Check.due("0 wants 1", x.stable(), 2);
        x.match(0);
        places(x, 1, 0, -9);
        Check.due("stable", x.stable(), 0);
        x.prefer(2, 0);
        Check.due("2 is behind 1", x.stable(), 0);
        // by the tickets as they are now: 2 ahead of 1 in course 0, 0 ahead of 1 in course 1
        x.lottery(both(0, 2, 1, 1, 0, 1));
        Check.due("2 wants 0", x.stable(), 201);
        x.match(0);
        Check.due("stable", x.stable(), 0);
        // of like tickets the greater number is behind
        x = school(2, 1);
        x.prefer(1, 0);
        x.match(0);
        places(x, -9, 0);
        x.prefer(0, 0);
        Check.due("0 is ahead of 1", x.stable(), 1);
        x = school(2, 1);
        x.prefer(0, 0);
        x.match(0);
        x.prefer(1, 0);
        Check.due("1 is behind 0", x.stable(), 0);
        // a worse course than its own is not wanted
        x = school(1, 1, 1);
        x.prefer(0, 1);
        x.match(0);
        x.prefer(0, 0);
        Check.due("its own is better", x.stable(), 0);
    }
}
