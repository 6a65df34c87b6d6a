/** Promises 23 to 28: ranks, lotteries, offers and trades, what is stable. */
public final class ChoicesTest {
    private ChoicesTest() {
    }

    public static void main(String[] args) {
        prefer();
        lottery();
        offers();
        trades();
        manyPlaces();
        fullHouse();
        placed();
        stable();
        stableByTickets();
        Check.finish();
    }

    private static SchoolHouse school(int pupils, int... places) {
        StringBuilder b = new StringBuilder("group g 99 ; ");
        for (int i = 0; i < places.length; i++) b.append("course c").append(i).append(' ').append(places[i]).append(" ; ");
        SchoolHouse x = Check.school(b.toString());
        for (int i = 0; i < pupils; i++) x.pupil(0, 0);
        return x;
    }

    private static void ranks(SchoolHouse x, int p, int... courses) {
        for (int c : courses) x.prefer(p, c);
    }

    private static void places(SchoolHouse x, int... due) {
        for (int p = 0; p < due.length; p++) Check.due("placed " + p, x.placed(p), due[p]);
    }

    private static int ticket(int seed, int p, int c) {
        int h = seed ^ (16 * p + c) * 0x9E3779B1;
        h = (h ^ h >>> 15) * 0x85EBCA77;
        return h ^ h >>> 13;
    }

    /** A seed by whose lottery the pupils come into a course in such an order. */
    private static int seedFor(int course, int... order) {
        for (int seed = 0; seed < 1000000; seed++) {
            boolean fits = true;
            for (int i = 1; i < order.length; i++) fits &= ticket(seed, order[i - 1], course) < ticket(seed, order[i], course);
            if (fits) return seed;
        }
        throw new IllegalStateException("no such seed");
    }

    private static void prefer() {
        Check.part("promise 23");
        SchoolHouse x = school(2, 1, 1, 1);
        x.parent(0);
        Check.due("nobody", x.prefer(3, 0), -1);
        Check.due("nobody", x.prefer(-1, 0), -1);
        Check.due("no course", x.prefer(0, 3), -1);
        Check.due("no course", x.prefer(2, -1), -1);
        Check.due("a parent", x.prefer(2, 0), -2);
        Check.due("first", x.prefer(0, 2), 1);
        Check.due("again", x.prefer(0, 2), -2);
        Check.due("second", x.prefer(0, 0), 2);
        Check.due("third", x.prefer(0, 1), 3);
        Check.due("again", x.prefer(0, 0), -2);
        Check.due("another", x.prefer(1, 1), 1);
        Check.wrong(n -> x.prefer(n, 0), -1, 3);
        Check.wrong(n -> x.prefer(0, n), -1, 3);
        Check.due("what is refused is no rank", x.prefer(1, 0), 2);
        SchoolHouse y = school(1, 1, 1, 1, 1, 1, 1, 1, 1);
        for (int c = 7; c >= 0; c--) Check.due("all eight", y.prefer(0, c), 8 - c);
        for (int c = 7; c >= 0; c--) Check.due("again", y.prefer(0, c), -2);
    }

    private static void lottery() {
        Check.part("promise 24");
        SchoolHouse x = school(3, 1, 1);
        x.parent(0);
        Check.due("none yet", x.ticket(0, 0), 0);
        Check.due("three", x.lottery(5), 3);
        Check.part("promise 25");
        // worked by hand: with seed 0, person 0 and course 0 all stays 0; with seed 1: h = 1 * 0x85EBCA77, then xor its upper 19 bits
        Check.due("seed 0", ticket(0, 0, 0), 0);
        Check.due("seed 1", ticket(1, 0, 0), 0x85EBCA77 ^ 0x00042F5E);
        for (int p = 0; p < 3; p++) {
            for (int c = 0; c < 2; c++) Check.due("ticket", x.ticket(p, c), ticket(5, p, c));
        }
        Check.due("a parent", x.ticket(3, 0), 0);
        Check.due("nobody", x.ticket(4, 0), 0);
        Check.due("nobody", x.ticket(-1, 0), 0);
        Check.due("no course", x.ticket(0, 2), 0);
        Check.due("no course", x.ticket(0, -1), 0);
        x.pupil(0, 0);
        Check.due("behind the lottery", x.ticket(4, 0), 0);
        Check.due("four", x.lottery(-1), 4);
        Check.due("ticket", x.ticket(4, 1), ticket(-1, 4, 1));
        Check.due("seed 0", x.lottery(0), 4);
        Check.due("ticket", x.ticket(0, 0), 0);
        Check.due("no pupils", new SchoolHouse().lottery(1), 0);
        for (int seed : new int[] {Integer.MIN_VALUE, -1, 1, Integer.MAX_VALUE}) {
            Check.due("lottery", x.lottery(seed), 4);
            for (int p = 0; p < 3; p++) Check.due("ticket", x.ticket(p, 1), ticket(seed, p, 1));
        }
        SchoolHouse y = x;
        Check.wrong(n -> y.ticket(n, 0), 0, 5);
        Check.wrong(n -> y.ticket(0, n), 0, 2);
        Check.due("one of staff", Check.school("subject s ; staff t head : s ; course c 1 ;").lottery(3), 0);
    }

    private static void offers() {
        Check.part("promise 26, offers");
        SchoolHouse x = school(3, 1, 1);
        Check.due("way", x.match(2), -1);
        Check.due("way", x.match(-1), -1);
        Check.due("none there", x.stable(), -2);
        Check.due("nobody asks", x.match(0), 0);
        ranks(x, 0, 0, 1);
        ranks(x, 1, 0, 1);
        ranks(x, 2, 0);
        // without a lottery the lesser number
        Check.due("offers", x.match(0), 2);
        places(x, 0, 1, -9);
        x.lottery(seedFor(0, 2, 1, 0));
        Check.due("offers", x.match(0), 2);
        int last = x.ticket(0, 1) < x.ticket(1, 1) ? 0 : 1;
        places(x, last == 0 ? 1 : -9, last == 0 ? -9 : 1, 0);
        // one who is put out asks on, and puts out another
        x = school(3, 1, 1, 1);
        ranks(x, 0, 1, 2);
        ranks(x, 1, 0, 1);
        ranks(x, 2, 0);
        x.lottery(both(0, 2, 1, 1, 1, 0));
        Check.due("offers", x.match(0), 3);
        places(x, 2, 1, 0);
        x = school(4, 2);
        for (int p = 0; p < 4; p++) ranks(x, p, 0);
        Check.due("offers", x.match(0), 2);
        places(x, 0, 0, -9, -9);
        SchoolHouse y = x;
        Check.wrong(y::match, -1, 2);
        Check.due("what is refused places nobody", x.placed(1), 0);
    }

    /** Who ranks alike is placed by tickets, whichever way: the first course is filled, then the next one. */
    private static void manyPlaces() {
        Check.part("promise 26, several places");
        for (int seed = 0; seed < 60; seed++) {
            for (int k = 1; k <= 4; k++) {
                SchoolHouse x = school(6, k, 2);
                for (int p = 0; p < 6; p++) ranks(x, p, 0, 1);
                x.lottery(seed);
                int[] due = new int[6];
                java.util.Arrays.fill(due, -9);
                take(seed, due, 0, k);
                take(seed, due, 1, 2);
                for (int way = 0; way < 2; way++) {
                    Check.due("match", x.match(way), Math.min(k + 2, 6));
                    places(x, due);
                    Check.due("stable", x.stable(), 0);
                }
            }
        }
    }

    /** A course takes so many of those who have none yet. */
    private static void take(int seed, int[] places, int course, int n) {
        for (int i = 0; i < n; i++) {
            int first = -1;
            for (int p = 0; p < places.length; p++) {
                if (places[p] == -9 && (first < 0 || ticket(seed, p, course) < ticket(seed, first, course))) first = p;
            }
            if (first >= 0) places[first] = course;
        }
    }

    /** 24 pupils, 8 courses, places for none too many. */
    private static void fullHouse() {
        Check.part("promise 26, as many as can be");
        SchoolHouse x = school(24, 3, 3, 3, 3, 3, 3, 3, 2);
        for (int p = 0; p < 24; p++) ranks(x, p, 0, 1, 2, 3, 4, 5, 6, 7);
        for (int way = 0; way < 2; way++) {
            Check.due("match", x.match(way), 23);
            for (int p = 0; p < 23; p++) Check.due("placed", x.placed(p), p / 3);
            Check.due("nothing left", x.placed(23), -9);
            Check.due("stable", x.stable(), 0);
        }
        // all in the worst order: each one puts out another, course by course
        x = school(24, 1, 1, 1, 1, 1, 1, 1, 1);
        for (int p = 0; p < 24; p++) ranks(x, p, 0, 1, 2, 3, 4, 5, 6, 7);
        x.lottery(seedFor(0, 23, 0));
        for (int way = 0; way < 2; way++) Check.due("match", x.match(way), 8);
        // courses of 99 places take all
        x = school(24, 99);
        for (int p = 0; p < 24; p++) ranks(x, p, 0);
        for (int way = 0; way < 2; way++) Check.due("match", x.match(way), 24);
        // a ring of all: each ranks the course that another one comes first for
        x = school(3, 1, 1, 1);
        ranks(x, 0, 1, 2, 0);
        ranks(x, 1, 2, 0, 1);
        ranks(x, 2, 0, 1, 2);
        int seed = 0;
        while (!(isFirst(seed, 0, 0) && isFirst(seed, 1, 1) && isFirst(seed, 2, 2))) seed++;
        x.lottery(seed);
        Check.due("trades", x.match(1), 3);
        places(x, 1, 2, 0);
    }

    /** Whether one of three pupils comes first for a course. */
    private static boolean isFirst(int seed, int p, int c) {
        return ticket(seed, p, c) < ticket(seed, (p + 1) % 3, c) && ticket(seed, p, c) < ticket(seed, (p + 2) % 3, c);
    }

    /** A seed by which one comes ahead of another in each of two courses. */
    private static int both(int c, int first, int second, int d, int third, int fourth) {
        for (int seed = 0; seed < 1000000; seed++) {
            if (ticket(seed, first, c) < ticket(seed, second, c) && ticket(seed, third, d) < ticket(seed, fourth, d)) return seed;
        }
        throw new IllegalStateException("no such seed");
    }

    private static void trades() {
        Check.part("promise 26, trades");
        // each wants the course that takes the other one first
        SchoolHouse x = school(2, 1, 1);
        ranks(x, 0, 0, 1);
        ranks(x, 1, 1, 0);
        x.lottery(both(0, 1, 0, 1, 0, 1));
        Check.due("trades", x.match(1), 2);
        places(x, 0, 1);
        Check.due("stable", x.stable(), 0);
        // 0 and 1 trade places in the first round; 2, who comes first for course 2 only, wanted 0: offers would give it
        x = school(3, 1, 1, 1);
        ranks(x, 0, 0, 1, 2);
        ranks(x, 1, 1, 0, 2);
        ranks(x, 2, 0, 2);
        int seed = -1;
        for (int s = 0; s < 1000000 && seed < 0; s++) {
            boolean zero = ticket(s, 1, 0) < ticket(s, 2, 0) && ticket(s, 2, 0) < ticket(s, 0, 0);
            boolean one = ticket(s, 0, 1) < ticket(s, 1, 1) && ticket(s, 0, 1) < ticket(s, 2, 1);
            if (zero && one) seed = s;
        }
        x.lottery(seed);
        Check.due("trades", x.match(1), 3);
        places(x, 0, 1, 2);
        Check.due("2 wants course 0", x.stable(), 201);
        Check.due("offers", x.match(0), 3);
        Check.due("stable", x.stable(), 0);
        // a course points to one who has not ranked it
        x = school(2, 1, 1);
        ranks(x, 0, 1);
        ranks(x, 1, 0, 1);
        Check.due("trades", x.match(1), 2);
        places(x, 1, 0);
        // who has nothing left goes away, and is pointed to no more
        x = school(3, 1);
        ranks(x, 1, 0);
        ranks(x, 2, 0);
        Check.due("trades", x.match(1), 1);
        places(x, -9, 0, -9);
        x = school(3, 1, 1);
        ranks(x, 0, 0);
        ranks(x, 1, 0);
        ranks(x, 2, 0, 1);
        Check.due("trades", x.match(1), 2);
        places(x, 0, -9, 1);
        x = school(4, 2);
        for (int p = 0; p < 4; p++) ranks(x, p, 0);
        Check.due("trades", x.match(1), 2);
        places(x, 0, 0, -9, -9);
    }

    private static void placed() {
        Check.part("promise 27");
        SchoolHouse x = school(1, 1);
        x.parent(0);
        x.prefer(0, 0);
        Check.due("nobody", x.placed(2), -1);
        Check.due("nobody", x.placed(-1), -1);
        Check.due("no match yet", x.placed(0), -9);
        x.match(0);
        Check.due("placed", x.placed(0), 0);
        Check.due("a parent", x.placed(1), -9);
        x.match(5);
        Check.due("refused", x.placed(0), 0);
        x.pupil(0, 0);
        Check.due("behind the match", x.placed(2), -9);
        SchoolHouse y = x;
        Check.wrong(y::placed, -1, 3);
        // the latest match: what was placed before is placed no more
        x = school(2, 1, 1);
        ranks(x, 0, 1);
        x.match(0);
        places(x, 1, -9);
        ranks(x, 1, 1);
        x.lottery(seedFor(1, 1, 0));
        places(x, 1, -9);
        Check.due("match", x.match(1), 1);
        places(x, -9, 1);
    }

    private static void stable() {
        Check.part("promise 28");
        SchoolHouse x = school(3, 1, 1);
        Check.due("none", x.stable(), -2);
        x.match(0);
        Check.due("nobody wants", x.stable(), 0);
        // by the ranks as they are now
        x.prefer(1, 1);
        Check.due("1 wants 1", x.stable(), 102);
        x.prefer(1, 0);
        Check.due("1 wants 0 and 1", x.stable(), 101);
        x.prefer(0, 1);
        Check.due("0 wants 1", x.stable(), 2);
        x.match(0);
        places(x, 1, 0, -9);
        Check.due("stable", x.stable(), 0);
        x.prefer(2, 0);
        Check.due("2 is behind 1", x.stable(), 0);
        // by the tickets as they are now: 2 ahead of 1 in course 0, 0 ahead of 1 in course 1
        x.lottery(both(0, 2, 1, 1, 0, 1));
        Check.due("2 wants 0", x.stable(), 201);
        x.match(0);
        Check.due("stable", x.stable(), 0);
        // of like tickets the greater number is behind
        x = school(2, 1);
        x.prefer(1, 0);
        x.match(0);
        places(x, -9, 0);
        x.prefer(0, 0);
        Check.due("0 is ahead of 1", x.stable(), 1);
        x = school(2, 1);
        x.prefer(0, 0);
        x.match(0);
        x.prefer(1, 0);
        Check.due("1 is behind 0", x.stable(), 0);
        // a worse course than its own is not wanted
        x = school(1, 1, 1);
        x.prefer(0, 1);
        x.match(0);
        x.prefer(0, 0);
        Check.due("its own is better", x.stable(), 0);
    }

    private static void stableByTickets() {
        Check.part("promise 28, by tickets");
        // 2 comes behind the match: it wants the course if one of both there has a greater ticket for it
        for (int seed = 0; seed < 40; seed++) {
            SchoolHouse x = school(3, 2, 1);
            ranks(x, 0, 0);
            ranks(x, 1, 0);
            x.match(0);
            places(x, 0, 0, -9);
            ranks(x, 2, 0);
            x.lottery(seed);
            int t = ticket(seed, 2, 0);
            Check.due("stable", x.stable(), t < ticket(seed, 0, 0) || t < ticket(seed, 1, 0) ? 201 : 0);
            // tickets for another course do not count
            ranks(x, 2, 1);
            Check.due("stable", x.stable(), t < ticket(seed, 0, 0) || t < ticket(seed, 1, 0) ? 201 : 202);
        }
        // places left, with one taken of two
        SchoolHouse x = school(2, 2);
        ranks(x, 0, 0);
        x.match(0);
        Check.due("stable", x.stable(), 0);
        ranks(x, 1, 0);
        Check.due("1 wants 0", x.stable(), 101);
        x.match(1);
        Check.due("stable", x.stable(), 0);
        // the last pupil and the last course
        x = school(24, 1, 1, 1, 1, 1, 1, 1, 1);
        x.match(1);
        ranks(x, 23, 7);
        Check.due("23 wants 7", x.stable(), 2308);
        // the least course, whichever it ranked first
        ranks(x, 22, 7, 3, 5);
        Check.due("22 wants 3", x.stable(), 2204);
        // refused calls are no match
        SchoolHouse y = school(1, 1);
        y.match(2);
        Check.due("none", y.stable(), -2);
        Check.read(x, "group g 9 ;");
        Check.due("none since the text", x.stable(), -2);
    }
}
