/** Promises 29 to 31: who is absent, and who covers. */
public final class CoverTest {
    private CoverTest() {
    }

    public static void main(String[] args) {
        absent();
        cover();
        asManyAsCanBe();
        theLeastRow();
        covers();
        otherPeriods();
        whoIsBusy();
        Check.finish();
    }

    /** Lessons of staff 0, 1, .. in period 0, each in a room of its own; all others of staff are free. */
    private static SchoolHouse school(String subjects, int lessons, String... teaches) {
        StringBuilder b = new StringBuilder();
        for (String s : subjects.split(" ")) b.append("subject ").append(s).append(" ; ");
        for (int i = 0; i < teaches.length; i++) b.append("staff t").append(i).append(" teacher : ").append(teaches[i]).append(" ; ");
        for (int i = 0; i < lessons; i++) {
            b.append("room r").append(i).append(" 9 ; group g").append(i).append(" 9 ; lesson l").append(i).append(" : ");
            b.append(teaches[i].split(" ")[0]).append(" g").append(i).append(" t").append(i).append(" 1 ; ");
        }
        SchoolHouse x = Check.school(b.toString());
        for (int i = 0; i < lessons; i++) {
            for (int p = 1; p < 20; p++) x.wish(i, p, 1);
        }
        x.build(10000);
        for (int i = 0; i < lessons; i++) Check.due("period", x.unit(i, 1), 0);
        return x;
    }

    private static void row(SchoolHouse x, int... due) {
        for (int u = 0; u < due.length; u++) Check.due("covers " + u, x.covers(u), due[u]);
    }

    private static void absent() {
        Check.part("promise 29");
        SchoolHouse x = school("s", 1, "s", "s");
        Check.due("nobody", x.absent(2, 0, 1), -1);
        Check.due("nobody", x.absent(-1, 0, 1), -1);
        Check.due("period", x.absent(0, 20, 1), -1);
        Check.due("period", x.absent(0, -1, 1), -1);
        Check.due("on", x.absent(0, 0, 2), -1);
        Check.due("on", x.absent(0, 0, -1), -1);
        Check.due("on", x.absent(0, 0, 1), 0);
        Check.due("the table stays", x.table(0), 0);
        Check.due("cover", x.cover(0), 0);
        row(x, 1);
        Check.due("off", x.absent(0, 0, 0), 0);
        Check.due("what was covered stays", x.covers(0), 1);
        Check.due("cover", x.cover(0), 0);
        row(x, -9);
        Check.due("at another period", x.absent(0, 1, 1), 0);
        Check.due("cover", x.cover(0), 0);
        row(x, -9);
        SchoolHouse y = x;
        Check.wrong(n -> y.absent(n, 0, 1), -1, 2);
        Check.wrong(n -> y.absent(0, n, 1), -1, 20);
        Check.wrong(n -> y.absent(0, 0, n), -1, 2);
        Check.due("nobody is absent by what is refused", x.cover(0), 0);
        row(x, -9);
        x.absent(0, 0, 1);
        Check.due("twice", x.absent(0, 0, 1), 0);
        x.cover(0);
        row(x, 1);
        // absences outlast a new table
        x.absent(0, 0, 1);
        x.wish(0, 5, 1);
        x.build(10000);
        x.cover(0);
        row(x, 1);
    }

    private static void cover() {
        Check.part("promise 30");
        SchoolHouse x = school("s", 1, "s", "s");
        Check.due("period", x.cover(20), -1);
        Check.due("period", x.cover(-1), -1);
        Check.due("nothing there", x.cover(7), 0);
        x.bar(1, 5, 1);
        Check.due("no table", x.cover(0), -2);
        Check.due("period first", x.cover(20), -1);
        // who may cover: neither absent, nor barred, nor busy, and of the subject
        x = school("s u", 2, "s", "s", "u", "s", "s , u", "s");
        x.absent(0, 0, 1);
        x.absent(3, 0, 1);
        Check.due("cover", x.cover(0), 0);
        row(x, 4, -9);
        x.bar(4, 0, 1);
        x.build(10000);
        Check.due("cover", x.cover(0), 0);
        row(x, 5, -9);
        x.absent(5, 0, 1);
        Check.due("cover", x.cover(0), 1);
        row(x, -9, -9);
        x.absent(1, 0, 1);
        Check.due("those who are absent are no help", x.cover(0), 2);
        x.absent(3, 0, 0);
        Check.due("cover", x.cover(0), 1);
        row(x, 3, -9);
    }

    private static void asManyAsCanBe() {
        Check.part("promise 30, as many as can be");
        // unit 0 must leave staff 2 to unit 1
        SchoolHouse x = school("s u", 2, "s", "u", "s , u", "s");
        x.absent(0, 0, 1);
        x.absent(1, 0, 1);
        Check.due("cover", x.cover(0), 0);
        row(x, 3, 2);
        // a longer chain
        x = school("a b c", 3, "a", "b", "c", "a , b", "b , c", "a");
        for (int t = 0; t < 3; t++) x.absent(t, 0, 1);
        Check.due("cover", x.cover(0), 0);
        row(x, 5, 3, 4);
        x.absent(5, 0, 1);
        Check.due("cover", x.cover(0), 1);
        row(x, 3, 4, -9);
    }

    private static void theLeastRow() {
        Check.part("promise 30, the least row");
        // one for two units: the first gets it
        SchoolHouse x = school("s", 2, "s", "s", "s");
        x.absent(0, 0, 1);
        x.absent(1, 0, 1);
        Check.due("cover", x.cover(0), 1);
        row(x, 2, -9);
        x = school("s u", 2, "s", "u", "u", "s , u", "s");
        x.absent(0, 0, 1);
        x.absent(1, 0, 1);
        Check.due("cover", x.cover(0), 0);
        row(x, 3, 2);
        // as many as can be comes first, though nobody for unit 0 is the greater number
        x = school("a b c", 3, "a", "b", "c", "a , b , c", "b");
        for (int t = 0; t < 3; t++) x.absent(t, 0, 1);
        Check.due("cover", x.cover(0), 1);
        row(x, 3, 4, -9);
        x = school("a b", 6, "a", "a", "b", "b", "a", "b", "a , b", "a , b", "a , b", "b");
        for (int t = 0; t < 6; t++) x.absent(t, 0, 1);
        Check.due("cover", x.cover(0), 2);
        row(x, 6, 7, 8, 9, -9, -9);
    }

    private static void covers() {
        Check.part("promise 31");
        SchoolHouse x = school("s", 2, "s", "s", "s");
        Check.due("no unit", x.covers(2), -1);
        Check.due("no unit", x.covers(-1), -1);
        Check.due("none yet", x.covers(0), -2);
        x.absent(1, 0, 1);
        Check.due("refused", x.cover(20), -1);
        Check.due("none yet", x.covers(0), -2);
        Check.due("cover", x.cover(0), 0);
        row(x, -9, 2);
        Check.due("no unit", x.covers(2), -1);
        Check.due("another period", x.cover(1), 0);
        row(x, -9, -9);
        x.cover(0);
        row(x, -9, 2);
        x.build(0);
        row(x, -9, 2);
        x.build(10000);
        Check.due("none since the table", x.covers(1), -2);
        x.cover(0);
        row(x, -9, 2);
        x.bar(0, 19, 0);
        Check.due("no table", x.covers(1), -2);
        x.build(10000);
        Check.due("none since the table", x.covers(1), -2);
        x.cover(0);
        x.week(4);
        Check.due("no table", x.covers(1), -2);
        Check.due("no unit", x.covers(2), -1);
    }

    /** Lessons of staff 0 at PERIOD 19 and of staff 1 at PERIOD 7. */
    private static SchoolHouse apart() {
        SchoolHouse x = Check.school("subject s ; staff a teacher : s ; staff b tutor : s ; staff c head : s ; room r 9 ; room q 9 ; group g 9 ; group h 9 ; "
            + "lesson l : s g a 1 ; lesson m : s h b 1 ;");
        x.wish(0, 19, -1);
        x.wish(1, 7, -1);
        x.build(10000);
        Check.due("period", x.unit(0, 1), 19);
        Check.due("period", x.unit(1, 1), 7);
        return x;
    }

    private static void otherPeriods() {
        Check.part("promise 30, other periods");
        SchoolHouse x = apart();
        Check.wrong(x::cover, -1, 20);
        x.absent(0, 19, 1);
        x.absent(1, 7, 1);
        Check.due("cover", x.cover(19), 0);
        row(x, 1, -9);
        Check.due("cover", x.cover(7), 0);
        row(x, -9, 0);
        // who is absent at 7 has no OPEN unit at 19, and is no help at 7
        x.absent(0, 7, 1);
        Check.due("cover", x.cover(7), 0);
        row(x, -9, 2);
        x.absent(2, 7, 1);
        Check.due("cover", x.cover(7), 1);
        row(x, -9, -9);
        x.absent(0, 7, 0);
        Check.due("cover", x.cover(7), 0);
        row(x, -9, 0);
        Check.due("cover", x.cover(19), 0);
        row(x, 1, -9);
        x.absent(0, 19, 0);
        Check.due("cover", x.cover(19), 0);
        row(x, -9, -9);
        for (int p = 0; p < 20; p++) {
            Check.due("nothing is open", x.cover(p), 0);
            row(x, -9, p == 7 ? 0 : -9);
        }
        // one of staff is barred where it is said, not elsewhere
        x = apart();
        x.bar(0, 7, 1);
        x.bar(1, 18, 1);
        x.bar(2, 6, 1);
        x.build(10000);
        x.absent(0, 19, 1);
        x.absent(1, 7, 1);
        Check.due("cover", x.cover(7), 0);
        row(x, -9, 2);
        Check.due("cover", x.cover(19), 0);
        row(x, 1, -9);
        x.bar(0, 7, 0);
        x.bar(1, 19, 1);
        x.build(10000);
        Check.due("cover", x.cover(7), 0);
        row(x, -9, 0);
        Check.due("cover", x.cover(19), 0);
        row(x, 2, -9);
    }

    private static void whoIsBusy() {
        Check.part("promise 30, who is in a unit there");
        // staff 0 is free; of those who have a unit at 0 none can cover another one there, absent or not
        SchoolHouse x = Check.school("subject s ; staff z teacher : s ; staff a teacher : s ; staff b tutor : s ; room r 9 ; room q 9 ; group g 9 ; group h 9 ; "
            + "lesson l : s g a 1 ; lesson m : s h b 1 ;");
        x.build(10000);
        Check.due("period", x.unit(0, 1), 0);
        Check.due("period", x.unit(1, 1), 0);
        x.absent(1, 0, 1);
        Check.due("cover", x.cover(0), 0);
        row(x, 0, -9);
        x.absent(2, 0, 1);
        Check.due("cover", x.cover(0), 1);
        row(x, 0, -9);
        x.absent(1, 0, 0);
        Check.due("cover", x.cover(0), 0);
        row(x, -9, 0);
        x.absent(0, 0, 1);
        Check.due("cover", x.cover(0), 1);
        row(x, -9, -9);
        x.absent(2, 0, 0);
        Check.due("who is absent without a unit leaves none open", x.cover(0), 0);
        row(x, -9, -9);
        SchoolHouse y = x;
        Check.wrong(y::covers, -1, 2);
        // a subject that nobody else teaches
        x = school("s u", 1, "s", "u", "u");
        x.absent(0, 0, 1);
        Check.due("cover", x.cover(0), 1);
        row(x, -9);
        // the staff teaches the subject of the lesson among others
        x = school("s u", 1, "u", "s", "s , u", "u");
        x.absent(0, 0, 1);
        Check.due("cover", x.cover(0), 0);
        row(x, 2);
    }
}
