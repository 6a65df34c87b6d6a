/** Promises 5 to 11: people, their levels, their marks. */
public final class PeopleTest {
    private static final String STAFF = "subject s ; staff a teacher : s ; staff b tutor : s ; staff c head : s ; ";

    private PeopleTest() {
    }

    public static void main(String[] args) {
        pupils();
        parents();
        persons();
        levels();
        marks();
        mark();
        markOf();
        rowsSpent();
        Check.finish();
    }

    private static void pupils() {
        Check.part("promise 5");
        SchoolHouse x = Check.school(STAFF + "group g 2 ; group h 99 ;");
        Check.due("no group", x.pupil(2, 0), -1);
        Check.due("no group", x.pupil(-1, 0), -1);
        Check.due("worth", x.pupil(0, 100), -1);
        Check.due("worth", x.pupil(0, -100), -1);
        Check.due("first", x.pupil(0, 99), 3);
        Check.due("second", x.pupil(0, -99), 4);
        Check.due("group full", x.pupil(0, 0), -2);
        Check.due("group full, worth", x.pupil(0, 100), -1);
        for (int p = 5; p < 24; p++) Check.due("more", x.pupil(1, 0), p);
        Check.due("all full", x.pupil(1, 0), -3);
        Check.due("group full ahead of all full", x.pupil(0, 0), -2);
        Check.due("people", x.count(8), 24);
        Check.due("parent", x.parent(0), -3);
    }

    private static void parents() {
        Check.part("promise 6");
        SchoolHouse x = new SchoolHouse();
        Check.due("worth", x.parent(100), -1);
        Check.due("worth", x.parent(-100), -1);
        Check.due("first", x.parent(-99), 0);
        Check.due("second", x.parent(99), 1);
        for (int p = 2; p < 24; p++) Check.due("more", x.parent(0), p);
        Check.due("full", x.parent(0), -3);
        Check.due("full, worth", x.parent(100), -1);
    }

    private static void persons() {
        Check.part("promise 7");
        SchoolHouse x = Check.school(STAFF + "group g 2 ; group h 2 ;");
        x.pupil(1, -7);
        x.parent(8);
        int[][] due = {{2, 0, -9}, {3, 1, -9}, {4, 2, -9}, {0, -7, 1}, {1, 8, -9}};
        for (int p = 0; p < 5; p++) {
            for (int w = 0; w < 3; w++) Check.due("person " + p + " " + w, x.person(p, w), due[p][w]);
        }
        Check.due("what", x.person(0, 3), -100);
        Check.due("what", x.person(0, -1), -100);
        Check.due("nobody", x.person(5, 0), -100);
        Check.due("nobody", x.person(-1, 0), -100);
    }

    private static void levels() {
        Check.part("promise 8");
        StringBuilder b = new StringBuilder(STAFF);
        for (int i = 3; i < 8; i++) b.append("staff h").append(i).append(" head : s ; ");
        SchoolHouse x = Check.school(b + "group g 2 ;");
        x.pupil(0, 50);
        x.parent(50);
        int[][] due = {{2, 1, 2, 0}, {3, 2, 2, 1}, {9, 5, 8, 1}, {9, 5, 8, 1}, {9, 5, 8, 1}, {9, 5, 8, 1}, {10, 6, 9, 2}, {10, 6, 9, 2},
            {0, 1, 0, 0}, {1, 1, 0, 1}};
        for (int p = 0; p < due.length; p++) {
            for (int t = 0; t < 4; t++) Check.due("level " + p + " " + t, x.level(p, t), due[p][t]);
            Check.due("thing", x.level(p, 4), -1);
            Check.due("thing", x.level(p, -1), -1);
        }
        Check.due("nobody", x.level(10, 0), -1);
        Check.due("nobody", x.level(-1, 0), -1);
    }

    private static SchoolHouse withMarks() {
        SchoolHouse x = Check.school(STAFF + "group g 9 ; course c 1 ; course d 1 ; rule f ( p , c ) { give marks ( p , c ) ; }");
        x.pupil(0, 0);
        x.parent(0);
        return x;
    }

    private static void marks() {
        Check.part("promise 9");
        SchoolHouse x = withMarks();
        Check.due("nobody", x.marks(5, 0, 1), -1);
        Check.due("nobody", x.marks(-1, 0, 1), -1);
        Check.due("no course", x.marks(3, 2, 1), -1);
        Check.due("no course", x.marks(3, -1, 1), -1);
        Check.due("n", x.marks(3, 0, 65), -1);
        Check.due("n", x.marks(3, 0, -2), -1);
        Check.due("n ahead of no pupil", x.marks(4, 0, 65), -1);
        Check.due("a parent", x.marks(4, 0, 1), -2);
        Check.due("a head", x.marks(2, 0, -1), -2);
        Check.due("rows", x.count(11), 0);
        Check.due("64", x.marks(3, 1, 64), 0);
        Check.due("rows", x.count(11), 1);
        Check.due("run", x.run(0, 9, 3, 1, 0, 0), 4);
        Check.due("how many", x.gave(-4), 64);
        Check.due("set", x.mark(3, 1, 63, 5), 0);
        Check.due("the same row", x.gave(63), 5);
        Check.due("anew", x.marks(3, 1, 2), 0);
        Check.due("the old row", x.gave(63), 5);
        Check.due("new items", x.markOf(3, 1, 0), 0);
        Check.due("new items", x.markOf(3, 1, 1), 0);
        Check.due("none", x.marks(3, 1, -1), 0);
        Check.due("none", x.markOf(3, 1, -1), -2000000001);
        Check.due("none", x.run(0, 9, 3, 1, 0, 0), 0);
        Check.due("rows", x.count(11), 2);
        Check.due("empty", x.marks(3, 0, 0), 0);
        Check.due("empty", x.markOf(3, 0, -1), 0);
    }

    private static void mark() {
        Check.part("promise 10");
        SchoolHouse x = withMarks();
        Check.due("no marks", x.mark(3, 0, 0, 1), -2);
        x.marks(3, 0, 2);
        Check.due("nobody", x.mark(5, 0, 0, 1), -1);
        Check.due("nobody", x.mark(-1, 0, 0, 1), -1);
        Check.due("no course", x.mark(3, 2, 0, 1), -1);
        Check.due("no course", x.mark(4, -1, 0, 1), -1);
        Check.due("a parent", x.mark(4, 0, 0, 1), -2);
        Check.due("one of staff", x.mark(0, 0, 0, 1), -2);
        Check.due("no marks there", x.mark(3, 1, 0, 1), -2);
        Check.due("no item", x.mark(3, 0, 2, 1), -2);
        Check.due("no item", x.mark(3, 0, -1, 1), -2);
        Check.due("first", x.mark(3, 0, 1, Integer.MIN_VALUE), 0);
        Check.due("second", x.mark(3, 0, 1, Integer.MAX_VALUE), Integer.MIN_VALUE);
        Check.due("third", x.mark(3, 0, 1, -2), Integer.MAX_VALUE);
        Check.due("the other", x.markOf(3, 0, 0), 0);
    }

    private static void markOf() {
        Check.part("promise 11");
        SchoolHouse x = withMarks();
        x.marks(3, 0, 3);
        x.mark(3, 0, 2, -8);
        Check.due("nobody", x.markOf(5, 0, 0), -2000000000);
        Check.due("no course", x.markOf(3, 2, 0), -2000000000);
        Check.due("no course of a parent", x.markOf(4, 2, 0), -2000000000);
        Check.due("a parent", x.markOf(4, 0, -1), -2000000001);
        Check.due("no marks", x.markOf(3, 1, -1), -2000000001);
        Check.due("no item", x.markOf(3, 0, 3), -2000000001);
        Check.due("no item", x.markOf(3, 0, -2), -2000000001);
        Check.due("how many", x.markOf(3, 0, -1), 3);
        Check.due("item", x.markOf(3, 0, 2), -8);
        Check.due("item", x.markOf(3, 0, 0), 0);
    }

    private static void rowsSpent() {
        Check.part("promise 9, rows spent");
        SchoolHouse x = Check.school("course c 9 ; group g 9 ; rule f ( n ) { for i to n { x = row ( 64 ) ; } give x ; }");
        x.pupil(0, 0);
        for (int i = 0; i < 5; i++) Check.due("run", x.run(0, 3000, 1199, 0, 0, 0), 4);
        Check.due("rows", x.count(11), 5995);
        Check.due("run", x.run(0, 3000, 4, 0, 0, 0), 4);
        Check.due("marks", x.marks(0, 0, 7), 0);
        Check.due("rows", x.count(11), 6000);
        Check.due("marks", x.marks(0, 0, 8), -3);
        Check.due("marks that there were", x.markOf(0, 0, -1), 7);
        Check.due("none", x.marks(0, 0, -1), 0);
        Check.due("run", x.run(0, 3000, 1, 0, 0, 0), -22);
        Check.due("no rounds", x.run(0, 3000, 0, 0, 0, 0), 0);
        // rows of texts before count, too
        Check.read(x, "course c 9 ; group g 9 ; rule f ( n ) { try { x = row ( n ) ; } on size { give 5 ; } always { give 6 ; } }");
        x.pupil(0, 0);
        Check.due("marks", x.marks(0, 0, 1), -3);
        Check.due("run ends at once", x.run(0, 3000, 1, 0, 0, 0), -22);
        Check.due("steps", x.steps(), 2);
        Check.due("size comes first", x.run(0, 3000, 65, 0, 0, 0), 1);
        Check.due("rows", x.count(11), 6000);
    }
}
