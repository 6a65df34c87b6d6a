/** Promises 17 to 22: the week, who is barred, wishes, the search, the best table. */
public final class TableTest {
    private static final String STAFF = "subject s ; staff t teacher : s ; staff u head : s ; ";

    private TableTest() {
    }

    public static void main(String[] args) {
        week();
        bar();
        wish();
        build();
        order();
        fits();
        weights();
        bounds();
        boundsOfMany();
        large();
        searchedAnew();
        table();
        unit();
        Check.finish();
    }

    private static SchoolHouse simple() {
        return Check.school(STAFF + "room a 9 ; group g 9 ; lesson l : s g t 2 ; ");
    }

    private static void week() {
        Check.part("promise 17");
        SchoolHouse x = simple();
        Check.due("0", x.week(0), -1);
        Check.due("5", x.week(5), -1);
        Check.due("-1", x.week(-1), -1);
        x.bar(0, 0, 1);
        x.wish(0, 1, 7);
        x.absent(0, 1, 1);
        x.build(10000);
        Check.due("refused", x.week(9), -1);
        Check.due("weight stays", x.table(0), 0);
        Check.due("3", x.week(3), 4);
        Check.due("no table", x.table(0), -100000);
        Check.due("no search", x.table(1), -100000);
        Check.due("no unit", x.unit(0, 0), -2);
        Check.due("periods", x.bar(0, 15, 1), -1);
        Check.due("periods", x.wish(0, 15, 1), -100);
        Check.due("periods", x.absent(0, 15, 1), -1);
        Check.due("no wish", x.wish(0, 1, 0), 0);
        Check.due("build", x.build(10000), 0);
        Check.due("nobody barred", x.unit(0, 1), 0);
        Check.due("another day", x.unit(1, 1), 3);
        Check.due("nobody absent", x.cover(0), 0);
        Check.due("again 3", x.week(3), 3);
        Check.due("no table", x.table(0), -100000);
        Check.due("1", x.week(1), 3);
        x.build(10000);
        Check.due("another day", x.unit(1, 1), 1);
        Check.wrong(x::week, -1, 5);
        Check.due("0", x.week(0), -1);
        Check.due("the table stays", x.table(0), 0);
        for (int n = 1; n <= 4; n++) {
            Check.due("week", x.week(n), n == 1 ? 1 : n - 1);
            Check.due("the last period", x.bar(0, 5 * n - 1, 1), 0);
            Check.due("the last period", x.wish(0, 5 * n - 1, 9), 0);
            Check.due("the last period", x.absent(0, 5 * n - 1, 1), 0);
            Check.due("behind it", x.bar(0, 5 * n, 1), -1);
            Check.due("behind it", x.wish(0, 5 * n, 9), -100);
            Check.due("behind it", x.absent(0, 5 * n, 1), -1);
            Check.due("behind it", x.cover(5 * n), -1);
            Check.due("build", x.build(10000), 0);
            Check.due("the last period", x.cover(5 * n - 1), 0);
        }
        // with the N that there is, all is cleared, too
        x = simple();
        x.absent(0, 0, 1);
        x.bar(1, 0, 1);
        x.wish(0, 4, -9);
        Check.due("again 4", x.week(4), 4);
        x.build(10000);
        Check.due("no wishes", x.table(0), 0);
        Check.due("period", x.unit(1, 1), 4);
        Check.due("nobody absent", x.cover(0), 0);
        Check.due("nothing open", x.covers(0), -9);
        x.absent(0, 0, 1);
        Check.due("nobody barred", x.cover(0), 0);
        Check.due("nobody barred", x.covers(0), 1);
    }

    private static void bar() {
        Check.part("promise 18");
        SchoolHouse x = simple();
        Check.due("nobody", x.bar(2, 0, 1), -1);
        Check.due("nobody", x.bar(-1, 0, 1), -1);
        Check.due("period", x.bar(0, 20, 1), -1);
        Check.due("period", x.bar(0, -1, 1), -1);
        Check.due("on", x.bar(0, 0, 2), -1);
        Check.due("on", x.bar(0, 0, -1), -1);
        x.build(10000);
        x.bar(0, 0, 2);
        Check.due("the table stays", x.table(0), 0);
        Check.due("on", x.bar(0, 0, 1), 0);
        Check.due("no table", x.table(0), -100000);
        Check.due("no search", x.table(1), -100000);
        x.bar(1, 1, 1);
        x.build(10000);
        Check.due("barred", x.unit(0, 1), 1);
        Check.due("off", x.bar(0, 0, 0), 0);
        Check.due("no table", x.table(0), -100000);
        x.build(10000);
        Check.due("not barred", x.unit(0, 1), 0);
        Check.due("off again", x.bar(0, 5, 0), 0);
        Check.due("no table", x.table(0), -100000);
        SchoolHouse y = x;
        Check.wrong(n -> y.bar(n, 0, 1), -1, 2);
        Check.wrong(n -> y.bar(0, n, 1), -1, 20);
        Check.wrong(n -> y.bar(0, 0, n), -1, 2);
        Check.due("what is refused bars nobody", x.build(10000), 0);
        Check.due("what is refused bars nobody", x.unit(0, 1), 0);
        Check.due("twice", x.bar(0, 0, 1), 0);
        Check.due("twice", x.bar(0, 0, 1), 0);
        x.build(10000);
        Check.due("barred", x.unit(0, 1), 1);
        for (int p = 0; p < 19; p++) x.bar(0, p, 1);
        Check.due("one day is too few", x.build(10000), 2);
        x.bar(0, 15, 0);
        Check.due("two days", x.build(10000), 0);
        Check.due("first", x.unit(0, 1), 15);
        Check.due("second", x.unit(1, 1), 19);
    }

    private static void wish() {
        Check.part("promise 19");
        SchoolHouse x = simple();
        Check.due("no lesson", x.wish(1, 0, 0), -100);
        Check.due("no lesson", x.wish(-1, 0, 0), -100);
        Check.due("period", x.wish(0, 20, 0), -100);
        Check.due("period", x.wish(0, -1, 0), -100);
        Check.due("weight", x.wish(0, 0, 100), -100);
        Check.due("weight", x.wish(0, 0, -100), -100);
        x.build(10000);
        x.wish(0, 0, 100);
        Check.due("the table stays", x.table(0), 0);
        Check.due("first", x.wish(0, 0, 99), 0);
        Check.due("no table", x.table(0), -100000);
        Check.due("no search", x.table(1), -100000);
        Check.due("second", x.wish(0, 0, -99), 99);
        Check.due("third", x.wish(0, 0, 5), -99);
        Check.due("another period", x.wish(0, 1, 0), 0);
        Check.due("the last period", x.wish(0, 19, -3), 0);
        x.build(10000);
        Check.due("weight", x.table(0), -3);
        Check.wrong(n -> x.wish(n, 0, 0), -100, 1);
        Check.wrong(n -> x.wish(0, n, 0), -100, 20);
        Check.wrong(n -> x.wish(0, 0, n), -100, 100);
        Check.due("the table stays", x.table(0), -3);
        Check.due("what is refused is no wish", x.wish(0, 0, 5), 5);
        // each lesson and each PERIOD has its own
        SchoolHouse y = Check.school(STAFF + "room a 9 ; group g 9 ; lesson l : s g t 1 ; lesson m : s g u 1 ;");
        for (int p = 0; p < 20; p++) {
            Check.due("of l", y.wish(0, p, p + 1), 0);
            Check.due("of m", y.wish(1, p, -p - 1), 0);
        }
        for (int p = 0; p < 20; p++) {
            Check.due("of l", y.wish(0, p, 0), p + 1);
            Check.due("of m", y.wish(1, p, 0), -p - 1);
        }
    }

    private static void build() {
        Check.part("promise 20");
        SchoolHouse x = Check.school(STAFF + "room a 9 ; group g 9 ; lesson l : s g t 1 ; ");
        Check.due("nodes", x.build(0), -1);
        Check.due("nodes", x.build(-1), -1);
        Check.due("nodes", x.build(10001), -1);
        Check.due("no search", x.table(1), -100000);
        // the first node is a table; all 20 are looked at
        Check.due("1", x.build(1), 1);
        Check.due("weight", x.table(0), 0);
        Check.due("nodes", x.table(1), 1);
        Check.due("19", x.build(19), 1);
        Check.due("20", x.build(20), 0);
        Check.due("nodes", x.table(1), 20);
        Check.due("10000", x.build(10000), 0);
        Check.due("nodes", x.table(1), 20);
        x.bar(0, 0, 1);
        Check.due("1", x.build(1), 3);
        Check.due("no table", x.table(0), -100000);
        Check.due("nodes", x.table(1), 1);
        Check.due("2", x.build(2), 1);
        for (int p = 0; p < 20; p++) x.bar(0, p, 1);
        Check.due("19", x.build(19), 3);
        Check.due("20", x.build(20), 2);
        Check.due("nodes", x.table(1), 20);
        // without units, without rooms
        x = Check.school(STAFF + "room a 9 ; group g 9 ; ");
        Check.due("no units", x.build(1), 0);
        Check.due("weight", x.table(0), 0);
        Check.due("nodes", x.table(1), 0);
        x = Check.school(STAFF + "group g 9 ; lesson l : s g t 1 ; ");
        Check.due("no rooms", x.build(1), 2);
        Check.due("nodes", x.table(1), 0);
        // a new search begins anew
        x = simple();
        Check.due("all", x.build(10000), 0);
        Check.due("few", x.build(1), 3);
        Check.due("no table", x.table(0), -100000);
        x.build(10000);
        Check.due("refused", x.build(0), -1);
        Check.due("table stays", x.table(0), 0);
        SchoolHouse y = x;
        Check.wrong(y::build, -1, 10001);
        Check.due("table stays", x.table(0), 0);
        Check.due("nodes stay", x.table(1), 80 / 2);
        // a room for as many as there are, for one too few
        x = Check.school(STAFF + "room a 9 ; group g 9 ; lesson l : s g t 1 ; ");
        Check.due("as many", x.build(20), 0);
        x = Check.school(STAFF + "room a 8 ; group g 9 ; lesson l : s g t 1 ; ");
        Check.due("too few", x.build(20), 2);
        Check.due("too few, and spent", x.build(19), 3);
        x = Check.school(STAFF + "room a 99 ; group g 99 ; lesson l : s g t 1 ; ");
        Check.due("99", x.build(20), 0);
    }

    private static void order() {
        Check.part("promise 20, the order of the search");
        // unit 0 takes period 0, room a; unit 1 looks at 4 periods of 2 rooms on that day, then fits at once
        SchoolHouse x = Check.school(STAFF + "room a 9 ; room b 9 ; group g 9 ; lesson l : s g t 2 ; ");
        Check.due("8", x.build(9), 3);
        Check.due("9", x.build(10), 1);
        Check.due("nodes", x.table(1), 10);
        Check.due("period", x.unit(1, 1), 4);
        Check.due("room", x.unit(1, 2), 0);
        // behind the first table none is better: 40 for unit 1 in all, then the 39 others of unit 0
        Check.due("all", x.build(79), 1);
        Check.due("all", x.build(80), 0);
        Check.due("nodes", x.table(1), 80);
        // a small room is passed over, period by period
        x = Check.school(STAFF + "room a 8 ; room b 9 ; group g 9 ; lesson l : s g t 1 ; ");
        Check.due("1", x.build(1), 3);
        Check.due("2", x.build(2), 1);
        Check.due("room", x.unit(0, 2), 1);
    }

    private static void fits() {
        Check.part("promise 20, what fits");
        SchoolHouse x = Check.school(STAFF + "subject v ; staff w tutor : v , s ; room a 9 ; room b 9 ; group g 9 ; group h 9 ; "
            + "lesson l : s g t 1 ; lesson m : v h w 1 ; lesson n : s h u 1 ; lesson o : s g t 1 ;");
        Check.due("build", x.build(10000), 0);
        int[][] due = {{0, 0, 0}, {1, 0, 1}, {2, 1, 0}, {3, 1, 1}};
        for (int u = 0; u < 4; u++) {
            for (int w = 0; w < 3; w++) Check.due("unit " + u + " " + w, x.unit(u, w), due[u][w]);
        }
        // two lessons of one and the same staff and group may lie on one day, units of one lesson may not
        x = Check.school(STAFF + "room a 9 ; group g 9 ; lesson l : s g t 3 ; lesson m : s g t 3 ;");
        Check.due("build", x.build(2000), 0);
        int[] periods = {0, 4, 8, 1, 5, 9};
        for (int u = 0; u < 6; u++) Check.due("period " + u, x.unit(u, 1), periods[u]);
        x.week(1);
        Check.due("one period a day", x.build(10000), 2);
        x.week(2);
        Check.due("two periods a day", x.build(10000), 0);
        periods = new int[] {0, 2, 4, 1, 3, 5};
        for (int u = 0; u < 6; u++) Check.due("period " + u, x.unit(u, 1), periods[u]);
        // the same staff for two groups
        x = Check.school(STAFF + "room a 9 ; room b 9 ; group g 9 ; group h 9 ; lesson l : s g t 1 ; lesson m : s h t 1 ;");
        x.build(10000);
        Check.due("period", x.unit(1, 1), 1);
        // the same group with two of staff
        x = Check.school(STAFF + "room a 9 ; room b 9 ; group g 9 ; lesson l : s g t 1 ; lesson m : s g u 1 ;");
        x.build(10000);
        Check.due("period", x.unit(1, 1), 1);
        x = Check.school(STAFF + "room a 9 ; room b 9 ; group g 9 ; group h 9 ; lesson l : s g t 1 ; lesson m : s h u 1 ;");
        x.build(10000);
        Check.due("period", x.unit(1, 1), 0);
        Check.due("room", x.unit(1, 2), 1);
        x.bar(1, 0, 1);
        x.build(10000);
        Check.due("period", x.unit(1, 1), 1);
        Check.due("room", x.unit(1, 2), 0);
    }

    private static void weights() {
        Check.part("promise 20, weights");
        SchoolHouse x = Check.school(STAFF + "room a 9 ; group g 9 ; group h 9 ; lesson l : s g t 1 ; lesson m : s h u 1 ;");
        for (int p = 0; p < 20; p++) {
            x.wish(0, p, 20 - p);
            x.wish(1, p, p == 19 ? -50 : p == 18 ? -49 : 0);
        }
        Check.due("build", x.build(10000), 0);
        // 1 and -49, or 2 and -50: the first of both that is found stays
        Check.due("weight", x.table(0), -48);
        Check.due("period", x.unit(0, 1), 18);
        Check.due("period", x.unit(1, 1), 19);
        x.wish(1, 18, -51);
        Check.due("build", x.build(10000), 0);
        Check.due("weight", x.table(0), -50);
        Check.due("period", x.unit(0, 1), 19);
        Check.due("period", x.unit(1, 1), 18);
    }

    private static void bounds() {
        Check.part("promise 20, the bound");
        SchoolHouse x = Check.school(STAFF + "room a 9 ; group g 9 ; group h 9 ; lesson l : s g t 1 ; lesson m : s h u 1 ;");
        x.week(1);
        // with 0 as all wishes: 1 for unit 0, 5 for unit 1 (the second is taken), then none can be better
        Check.due("build", x.build(10000), 0);
        Check.due("nodes", x.table(1), 10);
        // unit 1's least wish, in period 0, makes each place of unit 0 hopeful, though room a is taken at 0 only once
        x.wish(1, 0, -5);
        Check.due("build", x.build(10000), 0);
        Check.due("weight", x.table(0), -5);
        Check.due("nodes", x.table(1), 5 + 5 + 5);
        x.wish(0, 0, -3);
        Check.due("build", x.build(10000), 0);
        Check.due("weight", x.table(0), -5);
        Check.due("period", x.unit(0, 1), 1);
    }

    private static void table() {
        Check.part("promise 21");
        SchoolHouse x = simple();
        Check.due("what", x.table(2), -1);
        Check.due("what", x.table(-1), -1);
        Check.due("none", x.table(0), -100000);
        Check.due("none", x.table(1), -100000);
        for (int p = 0; p < 20; p++) x.wish(0, p, -99);
        x.build(10000);
        Check.due("weight", x.table(0), -198);
        Check.due("what", x.table(2), -1);
        x.wish(0, 0, -99);
        Check.due("none", x.table(0), -100000);
        Check.due("none", x.table(1), -100000);
    }

    private static void unit() {
        Check.part("promise 22");
        SchoolHouse x = Check.school(STAFF + "room a 9 ; room b 9 ; group g 9 ; group h 9 ; lesson l : s g t 2 ; lesson m : s h u 3 ;");
        Check.due("units", x.count(9), 5);
        Check.due("no unit", x.unit(5, 0), -1);
        Check.due("no unit", x.unit(-1, 0), -1);
        Check.due("what", x.unit(0, 3), -1);
        Check.due("what", x.unit(0, -1), -1);
        for (int w = 0; w < 3; w++) Check.due("no table", x.unit(0, w), -2);
        x.build(500);
        int[] lessons = {0, 0, 1, 1, 1};
        int[] periods = {0, 4, 0, 4, 8};
        int[] rooms = {0, 0, 1, 1, 0};
        for (int u = 0; u < 5; u++) {
            Check.due("lesson", x.unit(u, 0), lessons[u]);
            Check.due("period", x.unit(u, 1), periods[u]);
            Check.due("room", x.unit(u, 2), rooms[u]);
        }
        Check.due("no unit", x.unit(5, 0), -1);
    }

    private static void boundsOfMany() {
        Check.part("promise 20, the bound of many units");
        String three = STAFF + "staff v head : s ; room a 9 ; group g 9 ; group h 9 ; group i 9 ; lesson l : s g t 1 ; lesson m : s h u 1 ; lesson n : s i v 1 ; ";
        SchoolHouse x = Check.school(three);
        x.week(1);
        Check.due("build", x.build(10000), 0);
        Check.due("nodes", x.table(1), 15);
        x.wish(0, 1, 3);
        x.wish(1, 0, -8);
        x.wish(2, 3, -6);
        for (int n = 0; n < 2; n++) {
            Check.due("build", x.build(10000), 0);
            Check.due("weight", x.table(0), -14);
            Check.due("period", x.unit(0, 1), 2);
        }
        // unit 0 goes to period 1 for the sake of both units behind it: 3 - 8 - 6
        for (int p = 2; p < 5; p++) x.wish(0, p, 9);
        Check.due("build", x.build(10000), 0);
        Check.due("weight", x.table(0), -11);
        int[] due = {1, 0, 3};
        for (int u = 0; u < 3; u++) Check.due("period", x.unit(u, 1), due[u]);
        // the least WISH counts wherever it lies: at the second PERIOD, at the last one
        for (int p : new int[] {1, 4}) {
            x = Check.school(STAFF + "room a 9 ; group g 9 ; group h 9 ; lesson l : s g t 1 ; lesson m : s h u 1 ; ");
            x.week(1);
            x.wish(1, p, -8);
            x.wish(0, 2, -5);
            Check.due("build", x.build(10000), 0);
            Check.due("weight", x.table(0), -13);
        }
        // also where its STAFF is BARRED: so each place of unit 0 is hopeful
        x = Check.school(STAFF + "room a 9 ; group g 9 ; group h 9 ; lesson l : s g t 1 ; lesson m : s h u 1 ; ");
        x.week(1);
        x.wish(1, 0, -5);
        x.bar(1, 0, 1);
        Check.due("build", x.build(10000), 0);
        Check.due("weight", x.table(0), 0);
        Check.due("nodes", x.table(1), 5 + 5 * 5);
        // and is the lesson's own, not that of the lesson behind it
        x = Check.school(three);
        x.wish(2, 0, -50);
        x.wish(2, 1, -50);
        Check.due("build", x.build(10000), 0);
        Check.due("weight", x.table(0), -50);
        Check.due("period", x.unit(2, 1), 1);
        // unit 0 at 0; unit 1 at 1 (2 NODES); unit 2 at 2 gives 0 (3), at the others no better (17); unit 1 at 2 (1); unit 2 at 1 gives -50 (20);
        // then neither unit 1 (17) nor unit 0 (19) can be better
        Check.due("nodes", x.table(1), 1 + 2 + 3 + 17 + 1 + 20 + 17 + 19);
    }

    /** All that a text can tell of units, and all NODES. */
    private static void large() {
        Check.part("promise 20, as much as can be");
        StringBuilder b = new StringBuilder("subject s ; ");
        for (int i = 0; i < 6; i++) b.append("room r").append(i).append(" 9 ; ");
        for (int i = 0; i < 10; i++) b.append("staff t").append(i).append(" head : s ; ");
        for (int i = 0; i < 8; i++) b.append("group g").append(i).append(" 9 ; ");
        for (int i = 0; i < 12; i++) b.append("lesson l").append(i).append(" : s g").append(i % 8).append(" t").append(i % 10).append(" 3 ; ");
        SchoolHouse x = Check.school(b.toString());
        Check.due("units", x.count(9), 36);
        Check.due("too few NODES", x.build(35), 3);
        Check.due("build", x.build(10000), 0);
        Check.due("each unit looks at all its PLACES once", x.table(1), 36 * 120);
        Check.due("weight", x.table(0), 0);
        for (int u = 0; u < 36; u++) {
            Check.due("lesson", x.unit(u, 0), u / 3);
            Check.due("day", x.unit(u, 1) / 4, u % 3);
        }
        Check.due("no unit", x.unit(36, 0), -1);
        Check.due("no cover", x.covers(35), -2);
        Check.due("no unit", x.covers(36), -1);
        for (int l = 0; l < 12; l++) {
            for (int p = 0; p < 20; p++) x.wish(l, p, -99);
        }
        Check.due("build", x.build(10000), 0);
        Check.due("weight", x.table(0), -99 * 36);
        // NODES are spent at the very last one
        for (int l = 0; l < 12; l++) {
            for (int p = 0; p < 20; p++) x.wish(l, p, 99 - (7 * l + 13 * p) % 20);
        }
        for (int nodes : new int[] {9999, 10000}) {
            Check.due("build", x.build(nodes), 1);
            Check.due("nodes", x.table(1), nodes);
        }
        x.week(1);
        Check.due("build", x.build(10000), 3);
        Check.due("nodes", x.table(1), 10000);
        Check.due("no table", x.table(0), -100000);
        Check.due("no unit", x.unit(35, 0), -2);
    }

    private static void searchedAnew() {
        Check.part("promise 20, from the beginning");
        SchoolHouse x = simple();
        for (int p = 0; p < 20; p++) x.wish(0, p, 7);
        Check.due("spent behind unit 0", x.build(1), 3);
        Check.due("build", x.build(10000), 0);
        Check.due("weight", x.table(0), 14);
        Check.due("spent", x.build(9), 1);
        Check.due("weight", x.table(0), 14);
        Check.due("build", x.build(10000), 0);
        Check.due("weight", x.table(0), 14);
        Check.due("nodes", x.table(1), 40);
        // what an earlier text's units wished is no bound of this one's
        x = Check.school(STAFF + "room a 9 ; group g 9 ; group h 9 ; lesson l : s g t 1 ; lesson m : s h u 2 ; ");
        for (int p = 0; p < 20; p++) x.wish(1, p, -99);
        x.build(10000);
        Check.read(x, STAFF + "room a 9 ; group g 9 ; group h 9 ; lesson l : s g t 1 ; lesson m : s h u 1 ; ");
        Check.due("build", x.build(10000), 0);
        Check.due("weight", x.table(0), 0);
        Check.due("nodes", x.table(1), 40);
        // a table found lately is no bound either
        x.wish(0, 0, 1);
        x.build(10000);
        for (int p = 0; p < 20; p++) x.wish(0, p, 50);
        Check.due("build", x.build(10000), 0);
        Check.due("weight", x.table(0), 50);
    }
}
