/** Promises 5 to 11: people, their levels, their marks. */
public final class PeopleTest {
    private static final String STAFF = "subject s ; staff a teacher : s ; staff b tutor : s ; staff c head : s ; ";

    private PeopleTest() {
    }

    public static void main(String[] args) {
        pupils();
        parents();
        persons();
        levels();
        marks();
        mark();
        markOf();
        rowsSpent();
        Check.finish();
    }

    private static void pupils() {
        Check.part("promise 5");
        SchoolHouse x = Check.school(STAFF + "group g 2 ; group h 99 ;");
        Check.due("no group", x.pupil(2, 0), -1);
        Check.due("no group", x.pupil(-1, 0), -1);
        Check.due("worth", x.pupil(0, 100), -1);
        Check.due("worth", x.pupil(0, -100), -1);
        Check.due("first", x.pupil(0, 99), 3);
        Check.due("second", x.pupil(0, -99), 4);
        Check.due("group full", x.pupil(0, 0), -2);
        Check.due("group full, worth", x.pupil(0, 100), -1);
        for (int p = 5; p < 24; p++) Check.due("more", x.pupil(1, 0), p);
        Check.due("all full", x.pupil(1, 0), -3);
        Check.due("group full ahead of all full", x.pupil(0, 0), -2);
        Check.due("people", x.count(8), 24);
        Check.due("parent", x.parent(0), -3);
        Check.wrong(n -> x.pupil(n, 0), -1, 2);
        Check.wrong(n -> x.pupil(0, n), -1, 100);
        // each group has its own size; person 0 counts, too, and parents do not
        SchoolHouse y = Check.school("group g 1 ; group h 2 ; group i 99 ;");
        Check.due("of g", y.pupil(0, 0), 0);
        Check.due("g is full", y.pupil(0, 0), -2);
        Check.due("a parent", y.parent(0), 1);
        Check.due("of h", y.pupil(1, 0), 2);
        Check.due("of i", y.pupil(2, 0), 3);
        Check.due("of h", y.pupil(1, 0), 4);
        Check.due("h is full", y.pupil(1, 0), -2);
        Check.due("worth ahead of a full group", y.pupil(1, -100), -1);
        Check.due("people", y.count(8), 5);
        for (int p = 5; p < 24; p++) Check.due("of i", y.pupil(2, 99 - p), p);
        Check.due("all full", y.pupil(2, 0), -3);
        Check.due("the last one", y.person(23, 1), 76);
        Check.due("none behind", y.person(24, 1), -100);
    }

    private static void parents() {
        Check.part("promise 6");
        SchoolHouse x = new SchoolHouse();
        Check.due("worth", x.parent(100), -1);
        Check.due("worth", x.parent(-100), -1);
        Check.due("first", x.parent(-99), 0);
        Check.due("second", x.parent(99), 1);
        for (int p = 2; p < 24; p++) Check.due("more", x.parent(0), p);
        Check.due("full", x.parent(0), -3);
        Check.due("full, worth", x.parent(100), -1);
        Check.wrong(x::parent, -1, 100);
        Check.due("people", x.count(8), 24);
    }

    private static void persons() {
        Check.part("promise 7");
        SchoolHouse x = Check.school(STAFF + "group g 2 ; group h 2 ;");
        x.pupil(1, -7);
        x.parent(8);
        int[][] due = {{2, 0, -9}, {3, 1, -9}, {4, 2, -9}, {0, -7, 1}, {1, 8, -9}};
        for (int p = 0; p < 5; p++) {
            for (int w = 0; w < 3; w++) Check.due("person " + p + " " + w, x.person(p, w), due[p][w]);
        }
        Check.due("what", x.person(0, 3), -100);
        Check.due("what", x.person(0, -1), -100);
        Check.due("nobody", x.person(5, 0), -100);
        Check.due("nobody", x.person(-1, 0), -100);
        Check.wrong(n -> x.person(n, 0), -100, 5);
        Check.wrong(n -> x.person(0, n), -100, 3);
    }

    private static void levels() {
        Check.part("promise 8");
        StringBuilder b = new StringBuilder(STAFF);
        for (int i = 3; i < 8; i++) b.append("staff h").append(i).append(" head : s ; ");
        SchoolHouse x = Check.school(b + "group g 2 ;");
        x.pupil(0, 50);
        x.parent(50);
        int[][] due = {{2, 1, 2, 0}, {3, 2, 2, 1}, {9, 5, 8, 1}, {9, 5, 8, 1}, {9, 5, 8, 1}, {9, 5, 8, 1}, {10, 6, 9, 2}, {10, 6, 9, 2},
            {0, 1, 0, 0}, {1, 1, 0, 1}};
        for (int p = 0; p < due.length; p++) {
            for (int t = 0; t < 4; t++) Check.due("level " + p + " " + t, x.level(p, t), due[p][t]);
            Check.due("thing", x.level(p, 4), -1);
            Check.due("thing", x.level(p, -1), -1);
        }
        Check.due("nobody", x.level(10, 0), -1);
        Check.due("nobody", x.level(-1, 0), -1);
        Check.wrong(n -> x.level(n, 0), -1, 10);
        Check.wrong(n -> x.level(0, n), -1, 4);
        // a worth above 5 is for heads alone
        Check.due("a teacher's level", Check.school(STAFF + "staff d head : s ; staff e head : s ; staff f head : s ; staff h teacher : s ; "
            + "staff i tutor : s ;").level(6, 0), 2);
    }

    private static SchoolHouse withMarks() {
        SchoolHouse x = Check.school(STAFF + "group g 9 ; course c 1 ; course d 1 ; rule f ( p , c ) { give marks ( p , c ) ; }");
        x.pupil(0, 0);
        x.parent(0);
        return x;
    }

    private static void marks() {
        Check.part("promise 9");
        SchoolHouse x = withMarks();
        Check.due("nobody", x.marks(5, 0, 1), -1);
        Check.due("nobody", x.marks(-1, 0, 1), -1);
        Check.due("no course", x.marks(3, 2, 1), -1);
        Check.due("no course", x.marks(3, -1, 1), -1);
        Check.due("n", x.marks(3, 0, 65), -1);
        Check.due("n", x.marks(3, 0, -2), -1);
        Check.due("n ahead of no pupil", x.marks(4, 0, 65), -1);
        Check.due("a parent", x.marks(4, 0, 1), -2);
        Check.due("a head", x.marks(2, 0, -1), -2);
        Check.due("rows", x.count(11), 0);
        Check.due("64", x.marks(3, 1, 64), 0);
        Check.due("rows", x.count(11), 1);
        Check.due("run", x.run(0, 9, 3, 1, 0, 0), 4);
        Check.due("how many", x.gave(-4), 64);
        Check.due("set", x.mark(3, 1, 63, 5), 0);
        Check.due("the same row", x.gave(63), 5);
        Check.due("anew", x.marks(3, 1, 2), 0);
        Check.due("the old row", x.gave(63), 5);
        Check.due("new items", x.markOf(3, 1, 0), 0);
        Check.due("new items", x.markOf(3, 1, 1), 0);
        Check.due("none", x.marks(3, 1, -1), 0);
        Check.due("none", x.markOf(3, 1, -1), -2000000001);
        Check.due("none", x.run(0, 9, 3, 1, 0, 0), 0);
        Check.due("rows", x.count(11), 2);
        Check.due("empty", x.marks(3, 0, 0), 0);
        Check.due("empty", x.markOf(3, 0, -1), 0);
        Check.due("no item", x.markOf(3, 0, 0), -2000000001);
        Check.due("no item", x.mark(3, 0, 0, 0), -2);
        Check.due("an empty one is a row", x.count(11), 3);
        // what is refused leaves the marks, and makes no row
        x.marks(3, 0, 2);
        x.mark(3, 0, 1, 8);
        Check.wrong(n -> x.marks(n, 0, 1), -1, 5);
        Check.wrong(n -> x.marks(3, n, 1), -1, 2);
        Check.wrong(n -> x.marks(3, 0, n), -1, 65);
        Check.due("n", x.marks(3, 0, -2), -1);
        Check.due("item", x.markOf(3, 0, 1), 8);
        Check.due("rows", x.count(11), 4);
        // the marks of another course, and of another pupil, are others
        x.pupil(0, 0);
        x.marks(3, 1, 1);
        x.marks(5, 0, 3);
        x.marks(5, 1, 4);
        Check.due("how many", x.markOf(3, 0, -1), 2);
        Check.due("how many", x.markOf(3, 1, -1), 1);
        Check.due("how many", x.markOf(5, 0, -1), 3);
        Check.due("how many", x.markOf(5, 1, -1), 4);
        for (int c = 0; c < 2; c++) {
            Check.due("run", x.run(0, 9, 5, c, 0, 0), 4);
            Check.due("how many", x.gave(-4), 3 + c);
        }
    }

    private static void mark() {
        Check.part("promise 10");
        SchoolHouse x = withMarks();
        Check.due("no marks", x.mark(3, 0, 0, 1), -2);
        x.marks(3, 0, 2);
        Check.due("nobody", x.mark(5, 0, 0, 1), -1);
        Check.due("nobody", x.mark(-1, 0, 0, 1), -1);
        Check.due("no course", x.mark(3, 2, 0, 1), -1);
        Check.due("no course", x.mark(4, -1, 0, 1), -1);
        Check.due("a parent", x.mark(4, 0, 0, 1), -2);
        Check.due("one of staff", x.mark(0, 0, 0, 1), -2);
        Check.due("no marks there", x.mark(3, 1, 0, 1), -2);
        Check.due("no item", x.mark(3, 0, 2, 1), -2);
        Check.due("no item", x.mark(3, 0, -1, 1), -2);
        Check.due("first", x.mark(3, 0, 1, Integer.MIN_VALUE), 0);
        Check.due("second", x.mark(3, 0, 1, Integer.MAX_VALUE), Integer.MIN_VALUE);
        Check.due("third", x.mark(3, 0, 1, -2), Integer.MAX_VALUE);
        Check.due("the other", x.markOf(3, 0, 0), 0);
        Check.wrong(n -> x.mark(n, 0, 0, 1), -1, 5);
        Check.wrong(n -> x.mark(3, n, 0, 1), -1, 2);
        Check.wrong(n -> x.mark(3, 0, n, 1), -2, 2);
        Check.due("no such course ahead of no pupil", x.mark(4, 2, 0, 1), -1);
        Check.due("as it was", x.markOf(3, 0, 1), -2);
        Check.due("as it was", x.markOf(3, 0, 0), 0);
        x.marks(3, 0, 64);
        Check.due("the last of 64", x.mark(3, 0, 63, 9), 0);
        Check.due("beyond 64", x.mark(3, 0, 64, 9), -2);
        x.marks(3, 0, -1);
        Check.due("no marks any more", x.mark(3, 0, 0, 9), -2);
    }

    private static void markOf() {
        Check.part("promise 11");
        SchoolHouse x = withMarks();
        x.marks(3, 0, 3);
        x.mark(3, 0, 2, -8);
        Check.due("nobody", x.markOf(5, 0, 0), -2000000000);
        Check.due("no course", x.markOf(3, 2, 0), -2000000000);
        Check.due("no course of a parent", x.markOf(4, 2, 0), -2000000000);
        Check.due("a parent", x.markOf(4, 0, -1), -2000000001);
        Check.due("no marks", x.markOf(3, 1, -1), -2000000001);
        Check.due("no item", x.markOf(3, 0, 3), -2000000001);
        Check.due("no item", x.markOf(3, 0, -2), -2000000001);
        Check.due("how many", x.markOf(3, 0, -1), 3);
        Check.due("item", x.markOf(3, 0, 2), -8);
        Check.due("item", x.markOf(3, 0, 0), 0);
        Check.due("nobody", x.markOf(-1, 0, -1), -2000000000);
        Check.due("no course", x.markOf(3, -1, -1), -2000000000);
        Check.due("one of staff", x.markOf(0, 0, 0), -2000000001);
        Check.due("no marks, an item", x.markOf(3, 1, 0), -2000000001);
        Check.wrong(n -> x.markOf(n, 0, 0), -2000000000, 5);
        Check.wrong(n -> x.markOf(3, n, 0), -2000000000, 2);
        Check.wrong(n -> x.markOf(3, 0, n), -2000000001, 3);
    }

    private static void rowsSpent() {
        Check.part("promise 9, rows spent");
        SchoolHouse x = Check.school("course c 9 ; group g 9 ; rule f ( n ) { for i to n { x = row ( 64 ) ; } give x ; }");
        x.pupil(0, 0);
        for (int i = 0; i < 5; i++) Check.due("run", x.run(0, 3000, 1199, 0, 0, 0), 4);
        Check.due("rows", x.count(11), 5995);
        Check.due("run", x.run(0, 3000, 4, 0, 0, 0), 4);
        Check.due("marks", x.marks(0, 0, 7), 0);
        Check.due("rows", x.count(11), 6000);
        Check.due("marks", x.marks(0, 0, 8), -3);
        Check.due("an empty row", x.marks(0, 0, 0), -3);
        Check.due("n comes first", x.marks(0, 0, 65), -1);
        x.parent(0);
        Check.due("no pupil comes first", x.marks(1, 0, 8), -2);
        Check.due("marks that there were", x.markOf(0, 0, -1), 7);
        Check.due("none", x.marks(0, 0, -1), 0);
        Check.due("run", x.run(0, 3000, 1, 0, 0, 0), -22);
        Check.due("no rounds", x.run(0, 3000, 0, 0, 0, 0), 0);
        // rows of texts before count, too
        Check.read(x, "course c 9 ; group g 9 ; rule f ( n ) { try { x = row ( n ) ; } on size { give 5 ; } always { give 6 ; } }");
        x.pupil(0, 0);
        Check.due("marks", x.marks(0, 0, 1), -3);
        Check.due("run ends at once", x.run(0, 3000, 1, 0, 0, 0), -22);
        Check.due("steps", x.steps(), 2);
        Check.due("size comes first", x.run(0, 3000, 65, 0, 0, 0), 1);
        Check.due("rows", x.count(11), 6000);
    }
}
