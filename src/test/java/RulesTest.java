/** Promises 12 to 16: runs of rules, what they gave, their steps, standings. */
public final class RulesTest {
    private static final int DIVIDE = -11, INDEX = -12, NULL = -13, CAST = -14, SIZE = -15, STORE = -16, EXACT = -17;
    private static final int LEAST = Integer.MIN_VALUE, GREATEST = Integer.MAX_VALUE;

    private RulesTest() {
    }

    public static void main(String[] args) {
        runs();
        wholes();
        reals();
        failureOrder();
        inOneAnother();
        rows();
        setItems();
        copies();
        people();
        ifAndFor();
        tries();
        eachFailure();
        triesAndCalls();
        steps();
        calls();
        large();
        failuresSpent();
        gave();
        standings();
        standingOrder();
        Check.finish();
    }

    /** A school of a teacher 0, a head 1, a pupil 2 and a parent 3, with two courses, and a rule of such a block. */
    private static SchoolHouse school(String names, String block) {
        SchoolHouse x = Check.school("subject s ; staff t teacher : s ; staff u head : s ; group g 9 ; course c 2 ; course d 2 ; rule f ( "
            + names + " ) { " + block + " }");
        x.pupil(0, 0);
        x.parent(0);
        x.marks(2, 0, 3);
        return x;
    }

    private static SchoolHouse ends(String block, int due) {
        SchoolHouse x = school("a , b", block);
        Check.due("run of " + block, x.run(0, 3000, 2, 3, 0, 0), due);
        return x;
    }

    private static void gives(String exp, int due) {
        SchoolHouse x = ends("give " + exp + " ;", 1);
        Check.due(exp, x.gave(-1), due);
    }

    private static void givesReal(String exp, double due) {
        SchoolHouse x = ends("give " + exp + " ;", 2);
        Check.due(exp, x.gave(-2), Double.doubleToLongBits(due));
    }

    private static void fails(String exp, int due) {
        ends("give " + exp + " ;", due);
        ends("give " + exp + " ;", due);
    }

    private static void runs() {
        Check.part("promise 12");
        SchoolHouse x = school("a , b , c , d", "give a * 1000 + b * 100 + c * 10 + d ;");
        Check.due("no rule", x.run(1, 9, 0, 0, 0, 0), -1);
        Check.due("no rule", x.run(-1, 9, 0, 0, 0, 0), -1);
        Check.due("steps", x.run(0, 0, 0, 0, 0, 0), -1);
        Check.due("steps", x.run(0, 3001, 0, 0, 0, 0), -1);
        Check.due("run", x.run(0, 3000, 1, 2, 3, 4), 1);
        Check.due("gave", x.gave(-1), 1234);
        x = school("a , b", "give a - b ;");
        Check.due("run", x.run(0, 1, 7, 2, 1000, 1000), 1);
        Check.due("gave", x.gave(-1), 5);
        ends("", 0);
        ends("a = 1 ;", 0);
        ends("give none ;", 0);
        ends("give 1 ;", 1);
        ends("give 1.0 ;", 2);
        ends("give person ( 0 ) ;", 3);
        ends("give row ( 0 ) ;", 4);
        ends("give reals ( 0 ) ;", 5);
        ends("give people ( 0 ) ;", 6);
        ends("give teachers ( 0 ) ;", 7);
        ends("give 1 ; give 2.5 ;", 1);
        // the names of a rule take as many of the wholes as they are
        for (int n = 0; n <= 4; n++) {
            SchoolHouse y = school("a , b , c , d".substring(0, Math.max(4 * n - 3, 0)), "give " + "a + 2 * b + 4 * c + 8 * d".substring(0, n == 0 ? 0 : 8 * n - 7)
                + (n == 0 ? "77" : "") + " ;");
            Check.due("run", y.run(0, 3000, 1, 1, 1, 1), 1);
            Check.due("gave", y.gave(-1), n == 0 ? 77 : (1 << n) - 1);
        }
        // a rule ends at its own end, whatever rule is told behind it
        x = Check.school("rule f ( ) { } rule g ( a ) { a = 1 ; } rule h ( ) { give f ( ) ; give 5 ; } rule i ( ) { give 6 ; }");
        Check.due("run", x.run(0, 9, 0, 0, 0, 0), 0);
        Check.due("run", x.run(1, 9, 0, 0, 0, 0), 0);
        Check.due("run", x.run(2, 9, 0, 0, 0, 0), 0);
        Check.due("run", x.run(3, 9, 0, 0, 0, 0), 1);
        SchoolHouse z = x;
        Check.wrong(n -> z.run(n, 9, 0, 0, 0, 0), -1, 4);
        Check.wrong(n -> z.run(3, n, 0, 0, 0, 0), -1, 3001);
        Check.due("steps", x.run(3, 0, 0, 0, 0, 0), -1);
        Check.due("what is refused leaves what was given", x.gave(-1), 6);
        Check.due("what is refused leaves the steps", x.steps(), 1);
        String[] names = {"divide", "index", "null", "cast", "size", "store", "exact"};
        for (int i = 0; i < 7; i++) ends("raise " + names[i] + " ;", -11 - i);
    }

    private static void wholes() {
        Check.part("wholes");
        gives("7 / 2", 3);
        gives("- 7 / 2", -3);
        gives("- 7 % 2", -1);
        gives("7 % - 2", 1);
        gives("2 + 3 * 4 - 6 / 2", 11);
        gives("20 - 5 - 4", 11);
        gives("20 / 5 / 2", 2);
        gives("( 2 + 3 ) * 4", 20);
        gives("- - 5", 5);
        gives("- 5 + 7", 2);
        gives("2 < 3", 1);
        gives("3 < 3", 0);
        gives("3 > 2", 1);
        gives("3 > 3", 0);
        gives("3 = 3", 1);
        gives("3 = 4", 0);
        gives("1 + 1 = 2", 1);
        gives("999999", 999999);
        gives("007", 7);
        fails("5 / 0", DIVIDE);
        fails("5 % 0", DIVIDE);
        SchoolHouse x = school("a , b", "give a + b ;");
        work(x, GREATEST, 0, GREATEST);
        work(x, GREATEST, 1, EXACT);
        work(x, LEAST, -1, EXACT);
        work(x, LEAST, GREATEST, -1);
        x = school("a , b", "give a - b ;");
        work(x, LEAST, 1, EXACT);
        work(x, 0, LEAST, EXACT);
        work(x, -1, LEAST, GREATEST);
        x = school("a , b", "give a * b ;");
        work(x, 65536, 32768, EXACT);
        work(x, 65536, -32768, LEAST);
        work(x, LEAST, -1, EXACT);
        work(x, LEAST, LEAST, EXACT);
        x = school("a , b", "give a / b ;");
        work(x, LEAST, -1, LEAST);
        work(x, LEAST, 1, LEAST);
        work(x, 0, 0, DIVIDE);
        x = school("a , b", "give a % b ;");
        work(x, LEAST, -1, 0);
        work(x, -7, 3, -1);
        work(x, LEAST, 0, DIVIDE);
        x = school("a , b", "give - a ;");
        work(x, GREATEST, 0, -GREATEST);
        work(x, LEAST, 0, EXACT);
        x = school("a , b", "give a < b ;");
        work(x, LEAST, GREATEST, 1);
        work(x, GREATEST, LEAST, 0);
    }

    /** What a rule gives for two wholes, or the failure that it ends by. */
    private static void work(SchoolHouse x, int a, int b, int due) {
        int ended = x.run(0, 10, a, b, 0, 0);
        if (due <= DIVIDE && due >= EXACT) Check.due("run " + a + " " + b, ended, due);
        else Check.due("gave " + a + " " + b, ended == 1 ? x.gave(-1) : ended * 1000000000L, due);
    }

    private static void reals() {
        Check.part("reals");
        givesReal("0.1 + 0.2", 0.1 + 0.2);
        givesReal("1 - 0.9", 1 - 0.9);
        givesReal("3 * 1.1", 3 * 1.1);
        givesReal("1.0 / 3", 1.0 / 3);
        givesReal("- 7.5 % 2", -7.5 % 2);
        givesReal("7 % 2.5", 7 % 2.5);
        givesReal("1.0 / 0", Double.POSITIVE_INFINITY);
        givesReal("- 1.0 / 0", Double.NEGATIVE_INFINITY);
        givesReal("0.0 / 0", Double.NaN);
        givesReal("1.0 % 0", Double.NaN);
        givesReal("- 0.0", -0.0);
        givesReal("0 - 0.0", 0.0);
        givesReal("- ( 0.0 / 0 )", Double.NaN);
        givesReal("999999.9999", 999999.9999);
        givesReal("123456.7890", 123456.789);
        givesReal("real ( 5 )", 5.0);
        givesReal("real ( 0.3 )", 0.3);
        gives("1 = 1.0", 1);
        gives("1.5 = 1", 0);
        gives("1 = 1.5", 0);
        gives("1.5 = 1.5", 1);
        gives("2.5 < 1", 0);
        gives("2.5 < 2.5", 0);
        gives("1 < 2.5", 1);
        gives("1.5 > 2", 0);
        gives("2 > 2.5", 0);
        gives("2.5 > 2.5", 0);
        gives("- 1.5 > - 2", 1);
        gives("- 1.5 < - 2", 0);
        gives("1 < 0.0 / 0", 0);
        gives("1 = 0.0 / 0", 0);
        // one real makes both doubles, from either side
        givesReal("2 + 0.5", 2.5);
        givesReal("0.5 + 2", 2.5);
        givesReal("2 - 0.5", 1.5);
        givesReal("0.5 - 2", -1.5);
        givesReal("2 * 0.5", 1.0);
        givesReal("0.5 * 2", 1.0);
        givesReal("7 / 2.0", 3.5);
        givesReal("7.0 / 2", 3.5);
        givesReal("7 / 2 + 0.0", 3.0);
        givesReal("7.5 % 2", 1.5);
        givesReal("- 7 % 4.0", -3.0);
        givesReal("7 / 0.0", Double.POSITIVE_INFINITY);
        givesReal("0 / 0.0", Double.NaN);
        givesReal("7 % 0.0", Double.NaN);
        givesReal("2 % ( 1.0 / 0 )", 2.0);
        givesReal("1.0 / 0 - 1.0 / 0", Double.NaN);
        givesReal("0 * ( 1.0 / 0 )", Double.NaN);
        givesReal("- ( 1.0 / 0 )", Double.NEGATIVE_INFINITY);
        givesReal("real ( 0 ) * - 1", -0.0);
        gives("whole ( 0.9999 )", 0);
        gives("whole ( - 0.9999 )", 0);
        gives("whole ( 999999.9999 )", 999999);
        gives("0.0 = - 0.0", 1);
        gives("- 0.0 < 0.0", 0);
        gives("0.0 / 0 = 0.0 / 0", 0);
        gives("0.0 / 0 < 1", 0);
        gives("0.0 / 0 > 1", 0);
        gives("1.5 > 1", 1);
        gives("1 < 1.5", 1);
        gives("1.0 / 0 > 999999", 1);
        gives("whole ( 2.9 )", 2);
        gives("whole ( - 2.9 )", -2);
        gives("whole ( 0.0 / 0 )", 0);
        gives("whole ( 1.0 / 0 )", GREATEST);
        gives("whole ( - 1.0 / 0 )", LEAST);
        gives("whole ( 999999.0 * 999999 )", GREATEST);
        gives("whole ( 7 )", 7);
        SchoolHouse w = school("a", "give whole ( a + 0.0 + real ( a ) / 2 ) ;");
        Check.due("run", w.run(0, 9, GREATEST, 0, 0, 0), 1);
        Check.due("gave", w.gave(-1), GREATEST);
        Check.due("run", w.run(0, 9, LEAST, 0, 0, 0), 1);
        Check.due("gave", w.gave(-1), LEAST);
        w = school("a", "give whole ( real ( a ) ) ;");
        for (int a : new int[] {LEAST, LEAST + 1, -1, 0, 1, GREATEST - 1, GREATEST}) {
            Check.due("run", w.run(0, 9, a, 0, 0, 0), 1);
            Check.due("gave", w.gave(-1), a);
        }
        // a real works where a whole would not fit, or divides by 0
        SchoolHouse x = school("a", "for i to 200 { a = a * 1000.0 ; } give a ;");
        Check.due("run", x.run(0, 3000, 1, 0, 0, 0), 2);
        Check.due("gave", x.gave(-2), Double.doubleToLongBits(Double.POSITIVE_INFINITY));
        x = school("a", "x = real ( a ) ; for i to 107 { x = x / 1000.0 ; } give x ;");
        double least = 1;
        for (int i = 0; i < 107; i++) least /= 1000.0;
        Check.due("run", x.run(0, 3000, 1, 0, 0, 0), 2);
        Check.due("gave", x.gave(-2), Double.doubleToLongBits(least));
    }

    private static void failureOrder() {
        Check.part("the order of failures");
        String p = "person ( 0 )";
        for (String op : new String[] {"+", "-", "*", "/", "%", "<", ">", "="}) {
            fails("none " + op + " none", NULL);
            fails("none " + op + " " + p, NULL);
            fails(p + " " + op + " none", CAST);
            fails(p + " " + op + " 1", CAST);
            fails("1 " + op + " none", NULL);
            fails("1 " + op + " row ( 1 )", CAST);
            fails("1.5 " + op + " none", NULL);
            fails("none " + op + " ( 1 / 0 )", DIVIDE);
            fails("person ( 9 ) " + op + " ( 1 / 0 )", INDEX);
        }
        fails("- none", NULL);
        fails("- " + p, CAST);
        fails("none [ none ]", NULL);
        fails("5 [ " + p + " ]", CAST);
        fails("5 [ 1.0 ]", CAST);
        fails("none [ 1.0 ]", CAST);
        fails("none [ 0 ]", NULL);
        fails("5 [ 0 ]", CAST);
        fails("row ( 1 ) [ 1 ]", INDEX);
        fails("row ( 1 ) [ - 1 ]", INDEX);
        fails("row ( 0 ) [ 0 ]", INDEX);
        fails("size ( none )", NULL);
        fails("size ( 5 )", CAST);
        fails("size ( " + p + " )", CAST);
        for (String word : new String[] {"row", "reals", "people", "teachers"}) {
            fails(word + " ( none )", NULL);
            fails(word + " ( 1.0 )", CAST);
            fails(word + " ( - 1 )", SIZE);
            fails(word + " ( 65 )", SIZE);
            gives("size ( " + word + " ( 64 ) )", 64);
            gives("size ( " + word + " ( 0 ) )", 0);
        }
        fails("whole ( none )", NULL);
        fails("whole ( " + p + " )", CAST);
        fails("real ( none )", NULL);
        fails("real ( row ( 1 ) )", CAST);
        gives("lacks ( none )", 1);
        gives("lacks ( 0 )", 0);
        gives("lacks ( " + p + " )", 0);
        gives("lacks ( row ( 1 ) )", 0);
        fails("lacks ( 1 / 0 )", DIVIDE);
        fails("person ( none )", NULL);
        fails("person ( 1.0 )", CAST);
        fails("person ( - 1 )", INDEX);
        fails("person ( 4 )", INDEX);
        fails("level ( none , none )", NULL);
        fails("level ( none , 1.0 )", CAST);
        fails("level ( 3 , none )", NULL);
        fails("level ( none , 1 )", NULL);
        fails("level ( 3 , 1 )", CAST);
        fails("level ( " + p + " , 4 )", INDEX);
        fails("level ( " + p + " , - 1 )", INDEX);
        fails("level ( none , 4 )", NULL);
        fails("marks ( none , 1.0 )", NULL);
        fails("marks ( 1.0 , none )", CAST);
        fails("marks ( 9 , none )", NULL);
        fails("marks ( 9 , " + p + " )", CAST);
        fails("marks ( 9 , 0 )", INDEX);
        fails("marks ( 0 , 0 )", INDEX);
        fails("marks ( 3 , 0 )", INDEX);
        fails("marks ( 2 , 2 )", INDEX);
        fails("marks ( 2 , - 1 )", INDEX);
        ends("give marks ( 2 , 1 ) ;", 0);
        ends("give marks ( 2 , 0 ) ;", 4);
        fails("marks ( - 1 , 0 )", INDEX);
        fails("marks ( 4 , 0 )", INDEX);
        fails("marks ( none , none )", NULL);
        fails("marks ( none , 0 )", NULL);
        fails("marks ( 2 , none )", NULL);
        fails("marks ( 2 , 1.0 )", CAST);
        fails("marks ( 2.0 , 1.0 )", CAST);
        fails("marks ( 2 , row ( 1 ) )", CAST);
        fails("level ( row ( 1 ) , 1 )", CAST);
        fails("level ( 1.0 , 4 )", CAST);
        fails("level ( " + p + " , none )", NULL);
        fails("level ( " + p + " , " + p + " )", CAST);
        fails("person ( " + p + " )", CAST);
        fails("row ( " + p + " )", CAST);
        fails("real ( " + p + " )", CAST);
        fails("whole ( row ( 1 ) )", CAST);
        fails("whole ( reals ( 1 ) )", CAST);
        fails("- row ( 1 )", CAST);
        fails("size ( 1.0 )", CAST);
        fails("1.0 [ 0 ]", CAST);
        fails(p + " [ 0 ]", CAST);
        fails(p + " [ none ]", NULL);
        fails("row ( 64 ) [ 64 ]", INDEX);
        gives("row ( 64 ) [ 63 ]", 0);
        // the parts are asked for from the left
        fails("person ( 9 ) [ 1 / 0 ]", INDEX);
        fails("none [ 1 / 0 ]", DIVIDE);
        fails("level ( person ( 9 ) , 1 / 0 )", INDEX);
        fails("level ( 1 / 0 , person ( 9 ) )", DIVIDE);
        fails("level ( none , 1 / 0 )", DIVIDE);
        fails("marks ( person ( 9 ) , 1 / 0 )", INDEX);
        fails("marks ( none , 1 / 0 )", DIVIDE);
        fails("f ( person ( 9 ) , 1 / 0 )", INDEX);
        fails("f ( 1 / 0 , person ( 9 ) )", DIVIDE);
        fails("1 / 0 + person ( 9 )", DIVIDE);
        fails("person ( 9 ) + 1 / 0", INDEX);
        fails("person ( 9 ) * ( 1 / 0 )", INDEX);
        fails("person ( 9 ) < 1 / 0", INDEX);
        fails("999999 * 999999 + none", EXACT);
        fails("none + 999999 * 999999", EXACT);
    }

    /** What an exp leaves goes into the exp around it, and nothing else. */
    private static void inOneAnother() {
        Check.part("exps in one another");
        gives("10 + whole ( 2.9 )", 12);
        gives("10 - whole ( 2 ) - 1", 7);
        givesReal("10 + real ( 2 )", 12.0);
        givesReal("10 - real ( 2.5 )", 7.5);
        gives("10 + lacks ( none ) * 2", 12);
        gives("10 + lacks ( row ( 1 ) )", 10);
        gives("10 + size ( row ( 3 ) )", 13);
        gives("10 + level ( person ( 1 ) , 0 )", 19);
        gives("10 * level ( person ( 0 ) , 1 ) + level ( person ( 3 ) , 0 )", 11);
        gives("10 + size ( marks ( 2 , 0 ) )", 13);
        gives("10 + marks ( 2 , 0 ) [ 2 ]", 10);
        gives("10 + row ( 1 ) [ 0 ] - - 3", 13);
        gives("10 * ( 2 < 3 ) + ( 3 < 2 )", 10);
        gives("( 1 = 1 ) + ( 2 > 1 ) + ( 1.5 < 2 )", 3);
        gives("10 + size ( people ( size ( teachers ( 5 ) ) ) )", 15);
        gives("row ( 3 ) [ row ( 2 ) [ 1 ] ]", 0);
        gives("2 - lacks ( f ( 5 , none ) )", 1, "if lacks ( b ) { give none ; }");
        SchoolHouse x = school("a", "give 100 * size ( marks ( 2 , a ) ) + marks ( 2 , a ) [ 1 ] ;");
        x.marks(2, 1, 5);
        x.mark(2, 0, 1, 7);
        x.mark(2, 1, 1, 8);
        Check.due("run", x.run(0, 9, 0, 0, 0, 0), 1);
        Check.due("gave", x.gave(-1), 307);
        Check.due("run", x.run(0, 9, 1, 0, 0, 0), 1);
        Check.due("gave", x.gave(-1), 508);
    }

    /** What a rule gives for an exp behind some acts. */
    private static void gives(String exp, int due, String acts) {
        SchoolHouse x = ends(acts + " give " + exp + " ;", 1);
        Check.due(acts + exp, x.gave(-1), due);
    }

    private static void rows() {
        Check.part("rows");
        gives("row ( 2 ) [ 1 ]", 0);
        givesReal("reals ( 2 ) [ 1 ]", 0.0);
        gives("lacks ( people ( 2 ) [ 1 ] ) + 2 * lacks ( teachers ( 1 ) [ 0 ] )", 3);
        // one and the same row wherever it is held
        SchoolHouse x = ends("x = row ( 2 ) ; y = x ; y [ 1 ] = 7 ; give x ;", 4);
        Check.due("gave", x.gave(1), 7);
        x = ends("x = marks ( 2 , 0 ) ; x [ 2 ] = 9 ; give x [ 2 ] ;", 1);
        Check.due("markOf", x.markOf(2, 0, 2), 9);
        x = ends("x = people ( 2 ) ; x [ 0 ] = person ( 3 ) ; give x [ 0 ] ;", 3);
        Check.due("gave", x.gave(-3), 3);
        x = ends("x = people ( 2 ) ; x [ 0 ] = person ( 3 ) ; x [ 0 ] = none ; give lacks ( x [ 0 ] ) ;", 1);
        Check.due("gave", x.gave(-1), 1);
        x = ends("x = reals ( 2 ) ; x [ 0 ] = 0.0 / 0 ; give x [ 0 ] ;", 2);
        Check.due("gave", x.gave(-2), Double.doubleToLongBits(Double.NaN));
        ends("give x ; x = 1 ;", 0);
        ends("x [ 0 ] = 1 ; x = 1 ;", NULL);
    }

    private static void setItems() {
        Check.part("items that are set");
        String rows = "r = row ( 1 ) ; v = reals ( 1 ) ; p = people ( 1 ) ; t = teachers ( 1 ) ; n = none ; w = 5 ; ";
        ends(rows + "n [ none ] = none ;", NULL);
        ends(rows + "w [ none ] = 1 / 0 ;", DIVIDE);
        ends(rows + "r [ 1 / 0 ] = person ( 9 ) ;", DIVIDE);
        ends(rows + "n [ 1.0 ] = 1 ;", CAST);
        ends(rows + "n [ 0 ] = 1 ;", NULL);
        ends(rows + "w [ 0 ] = none ;", CAST);
        ends(rows + "r [ 5 ] = none ;", NULL);
        ends(rows + "r [ 5 ] = 1.0 ;", CAST);
        ends(rows + "r [ 5 ] = person ( 0 ) ;", CAST);
        ends(rows + "r [ 5 ] = 1 ;", INDEX);
        ends(rows + "r [ - 1 ] = 1 ;", INDEX);
        ends(rows + "v [ 5 ] = none ;", NULL);
        ends(rows + "v [ 5 ] = row ( 1 ) ;", CAST);
        ends(rows + "v [ 5 ] = 1 ;", INDEX);
        ends(rows + "p [ 5 ] = 1 ;", INDEX);
        ends(rows + "p [ 0 ] = 1 ;", CAST);
        ends(rows + "p [ 0 ] = row ( 1 ) ;", CAST);
        ends(rows + "t [ 5 ] = person ( 2 ) ;", INDEX);
        ends(rows + "t [ 0 ] = 1.0 ;", CAST);
        ends(rows + "t [ 0 ] = person ( 2 ) ;", STORE);
        ends(rows + "t [ 0 ] = person ( 3 ) ;", STORE);
        ends(rows + "t [ 0 ] = person ( 0 ) ; t [ 0 ] = person ( 1 ) ; t [ 0 ] = none ; p [ 0 ] = person ( 2 ) ;", 0);
        SchoolHouse x = ends(rows + "v [ 0 ] = 7 ; give v ;", 5);
        Check.due("a whole as a double", x.gave(0), Double.doubleToLongBits(7.0));
        x = ends(rows + "x = r ; x [ 0 ] = 5 ; give r ;", 4);
        Check.due("gave", x.gave(0), 5);
        ends(rows + "n [ none ] = 1 / 0 ;", DIVIDE);
        ends(rows + "n [ person ( 9 ) ] = 1 / 0 ;", INDEX);
        ends(rows + "w [ 1.0 ] = none ;", CAST);
        ends(rows + "w [ none ] = 1 ;", NULL);
        ends(rows + "r [ none ] = none ;", NULL);
        ends(rows + "r [ 0 ] = none ;", NULL);
        ends(rows + "r [ 0 ] = 1.0 ;", CAST);
        ends(rows + "v [ 0 ] = none ;", NULL);
        ends(rows + "v [ 0 ] = person ( 0 ) ;", CAST);
        ends(rows + "v [ - 1 ] = 1.0 ;", INDEX);
        ends(rows + "v [ 1 ] = 1.0 ;", INDEX);
        ends(rows + "p [ 1 ] = none ;", INDEX);
        ends(rows + "p [ - 1 ] = row ( 1 ) ;", INDEX);
        ends(rows + "p [ 0 ] = 1.0 ;", CAST);
        ends(rows + "t [ 1 ] = none ;", INDEX);
        ends(rows + "t [ 0 ] = row ( 1 ) ;", CAST);
        ends("x = person ( 0 ) ; x [ 0 ] = 1 ;", CAST);
        ends("x = 1.5 ; x [ 0 ] = 1 ;", CAST);
        ends("a [ 0 ] = 1 ;", CAST);
        ends("x = row ( 64 ) ; x [ 63 ] = 1 ; x [ 64 ] = 1 ;", INDEX);
        ends("x = row ( 0 ) ; x [ 0 ] = 1 ;", INDEX);
        // all kinds of teachers, and nobody else
        SchoolHouse y = Check.school("subject s ; staff t teacher : s ; staff u tutor : s ; staff v head : s ; group g 9 ; "
            + "rule f ( a ) { t = teachers ( 2 ) ; t [ 1 ] = person ( a ) ; give t [ 1 ] ; }");
        y.pupil(0, 0);
        y.parent(0);
        for (int a = 0; a < 5; a++) {
            Check.due("run " + a, y.run(0, 9, a, 0, 0, 0), a < 3 ? 3 : STORE);
            Check.due("gave " + a, y.gave(-3), a < 3 ? a : 0);
        }
        // between the rounds of a "for" nothing is left behind
        items(ends("x = row ( 3 ) ; for i to 3 { for j to i { x [ j ] = x [ j ] + i ; } } give x ;", 4), 3, 2, 0);
        items(ends("x = reals ( 2 ) ; for i to 2 { x [ i ] = i ; } give x ;", 5), 0, Double.doubleToLongBits(1));
        items(ends("x = people ( 3 ) ; for i to 4 { if i < 3 { x [ i ] = person ( i + 1 ) ; } } give x ;", 6), 1, 2, 3);
    }

    private static void copies() {
        Check.part("copies");
        String rows = "r = row ( 3 ) ; v = reals ( 3 ) ; p = people ( 3 ) ; t = teachers ( 3 ) ; n = none ; w = 5 ; r [ 0 ] = 1 ; r [ 1 ] = 2 ; "
            + "r [ 2 ] = 3 ; p [ 0 ] = person ( 1 ) ; p [ 2 ] = person ( 2 ) ; t [ 1 ] = person ( 0 ) ; ";
        ends(rows + "copy n , none , n , none , none ;", NULL);
        ends(rows + "copy n , 1.0 , n , none , none ;", CAST);
        ends(rows + "copy n , 0 , n , 1.0 , none ;", CAST);
        ends(rows + "copy n , 0 , n , 0 , 1.0 ;", CAST);
        ends(rows + "copy n , 0 , n , none , 1.0 ;", NULL);
        ends(rows + "copy n , 0 , w , 0 , 1 ;", NULL);
        ends(rows + "copy w , 0 , n , 0 , 1 ;", NULL);
        ends(rows + "copy w , 0 , r , 9 , 1 ;", STORE);
        ends(rows + "copy r , 9 , w , 0 , 1 ;", STORE);
        ends(rows + "copy r , 9 , v , 0 , 1 ;", STORE);
        ends(rows + "copy r , 0 , p , 0 , 0 ;", STORE);
        ends(rows + "copy t , 0 , v , 0 , 0 ;", STORE);
        ends(rows + "copy r , 1 / 0 , v , person ( 9 ) , 0 ;", DIVIDE);
        ends(rows + "copy r , - 1 , r , 0 , 1 ;", INDEX);
        ends(rows + "copy r , 0 , r , - 1 , 1 ;", INDEX);
        ends(rows + "copy r , 0 , r , 0 , - 1 ;", INDEX);
        ends(rows + "copy r , 1 , r , 0 , 3 ;", INDEX);
        ends(rows + "copy r , 0 , r , 1 , 3 ;", INDEX);
        ends(rows + "copy r , 4 , r , 0 , 0 ;", INDEX);
        ends(rows + "copy r , 3 , r , 3 , 0 ;", 0);
        SchoolHouse x = school("i , j , k", rows + "copy r , i , r , j , k ;");
        Check.due("no wrap", x.run(0, 99, 1, 0, GREATEST, 0), INDEX);
        Check.due("no wrap", x.run(0, 99, GREATEST, 0, GREATEST, 0), INDEX);
        items(ends(rows + "copy r , 0 , r , 1 , 2 ; give r ;", 4), 1, 1, 2);
        items(ends(rows + "copy r , 1 , r , 0 , 2 ; give r ;", 4), 2, 3, 3);
        items(ends(rows + "s = row ( 4 ) ; copy r , 1 , s , 2 , 2 ; give s ;", 4), 0, 0, 2, 3);
        items(ends(rows + "copy t , 0 , p , 0 , 3 ; give p ;", 6), -9, 0, -9);
        items(ends(rows + "copy p , 0 , t , 1 , 2 ; give t ;", 7), -9, 1, -9);
        ends(rows + "copy p , 0 , t , 0 , 3 ;", STORE);
        items(ends(rows + "try { copy p , 0 , t , 0 , 3 ; } on store { give t ; }", 7), 1, -9, -9);
        items(ends(rows + "p [ 1 ] = person ( 3 ) ; try { copy p , 0 , t , 0 , 3 ; } always { give t ; }", 7), 1, 0, -9);
        items(ends(rows + "copy p , 0 , p , 1 , 2 ; give p ;", 6), 1, 1, -9);
        items(ends(rows + "copy r , 0 , r , 0 , 3 ; give r ;", 4), 1, 2, 3);
        items(ends(rows + "copy t , 1 , t , 0 , 2 ; give t ;", 7), 0, -9, -9);
        items(ends(rows + "x = r ; copy x , 0 , r , 1 , 2 ; give x ;", 4), 1, 1, 2);
        items(ends(rows + "copy r , 2 , r , 0 , 0 ; give r ;", 4), 1, 2, 3);
        items(ends(rows + "v [ 0 ] = 2.5 ; copy v , 0 , v , 2 , 1 ; give v ;", 5), Double.doubleToLongBits(2.5), 0, Double.doubleToLongBits(2.5));
        items(ends(rows + "r [ 1 ] = 7 ; for i to 3 { x = row ( 2 ) ; copy r , i , x , 1 , 1 ; r [ 0 ] = x [ 1 ] + i ; } give r ;", 4), 5, 7, 3);
        copySizes(rows);
        copyOrder(rows);
    }

    private static void copySizes(String rows) {
        // each row has its own end
        String two = rows + "l = row ( 64 ) ; e = row ( 0 ) ; l [ 63 ] = 9 ; ";
        items(ends(two + "copy l , 61 , r , 0 , 3 ; give r ;", 4), 0, 0, 9);
        ends(two + "copy l , 62 , r , 0 , 3 ;", INDEX);
        ends(two + "copy l , 60 , r , 0 , 4 ;", INDEX);
        ends(two + "copy r , 0 , l , 0 , 4 ;", INDEX);
        ends(two + "copy r , 0 , l , 62 , 3 ;", INDEX);
        ends(two + "copy r , 0 , l , 61 , 3 ;", 0);
        ends(two + "copy e , 0 , l , 0 , 1 ;", INDEX);
        ends(two + "copy l , 0 , e , 0 , 1 ;", INDEX);
        ends(two + "copy e , 0 , l , 64 , 0 ;", 0);
        ends(two + "copy e , 0 , l , 65 , 0 ;", INDEX);
        ends(two + "copy e , 1 , l , 0 , 0 ;", INDEX);
        ends(two + "copy l , 0 , e , 1 , 0 ;", INDEX);
        ends(two + "copy l , - 1 , e , 0 , 0 ;", INDEX);
        ends(two + "copy l , 0 , e , - 1 , 0 ;", INDEX);
        items(ends(two + "copy l , 0 , l , 1 , 63 ; copy l , 61 , r , 0 , 3 ; give r ;", 4), 0, 0, 0);
        items(ends(two + "copy l , 1 , l , 0 , 63 ; copy l , 61 , r , 0 , 3 ; give r ;", 4), 0, 9, 9);
    }

    private static void copyOrder(String rows) {
        ends(rows + "copy n , none , n , 1.0 , none ;", NULL);
        ends(rows + "copy n , 0 , n , none , none ;", NULL);
        ends(rows + "copy n , 0 , n , 0 , none ;", NULL);
        ends(rows + "copy w , 1.0 , w , none , none ;", CAST);
        ends(rows + "copy n , 9 , n , 9 , 9 ;", NULL);
        ends(rows + "copy n , 9 , r , 9 , 9 ;", NULL);
        ends(rows + "copy r , 9 , n , 9 , 9 ;", NULL);
        ends(rows + "copy w , 9 , w , 9 , 9 ;", STORE);
        ends(rows + "copy person ( 0 ) , 0 , r , 0 , 0 ;", STORE);
        ends(rows + "copy r , 0 , person ( 0 ) , 0 , 0 ;", STORE);
        ends(rows + "copy 1.5 , 0 , r , 0 , 0 ;", STORE);
        ends(rows + "copy v , 0 , r , 0 , 0 ;", STORE);
        ends(rows + "copy v , 0 , p , 0 , 0 ;", STORE);
        ends(rows + "copy p , 0 , r , 0 , 0 ;", STORE);
        ends(rows + "copy p , 0 , v , 0 , 0 ;", STORE);
        ends(rows + "copy r , 0 , t , 0 , 0 ;", STORE);
        ends(rows + "copy p , 0 , t , 0 , 0 ;", 0);
        ends(rows + "copy p , 0 , t , 0 , 4 ;", INDEX);
        ends(rows + "copy p , 1 , t , 1 , 2 ;", STORE);
        ends(rows + "copy p , 0 , t , 0 , 2 ;", 0);
        ends(rows + "p [ 0 ] = person ( 3 ) ; copy p , 0 , t , 0 , 1 ;", STORE);
    }

    private static void items(SchoolHouse x, long... due) {
        Check.due("how many", x.gave(-4), due.length);
        for (int i = 0; i < due.length; i++) Check.due("item " + i, x.gave(i), due[i]);
    }

    private static void people() {
        Check.part("people in rules");
        gives("level ( person ( 1 ) , 0 )", 9);
        gives("level ( person ( 2 ) , 1 )", 1);
        gives("level ( person ( 3 ) , 3 )", 1);
        SchoolHouse x = ends("give person ( 3 ) ;", 3);
        Check.due("number", x.gave(-3), 3);
    }

    private static void ifAndFor() {
        Check.part("if and for");
        ends("if none { }", NULL);
        ends("if 1.0 { }", CAST);
        ends("if person ( 0 ) { }", CAST);
        gives("5", 5);
        SchoolHouse x = ends("if - 7 { give 1 ; } else { give 2 ; }", 1);
        Check.due("gave", x.gave(-1), 1);
        x = ends("if 0 { give 1 ; } else { give 2 ; } give 3 ;", 1);
        Check.due("gave", x.gave(-1), 2);
        x = ends("if 0 { give 1 ; } give 3 ;", 1);
        Check.due("gave", x.gave(-1), 3);
        ends("for i to none { }", NULL);
        ends("for i to 1.0 { }", CAST);
        x = ends("i = 77 ; for i to 0 { give 1 ; } give i ;", 1);
        Check.due("gave", x.gave(-1), 77);
        x = ends("for i to - 5 { give 1 ; } give lacks ( i ) ;", 1);
        Check.due("gave", x.gave(-1), 1);
        x = ends("n = 0 ; for i to 3 { n = n * 10 + i ; i = 50 ; } give n * 100 + i ;", 1);
        Check.due("gave", x.gave(-1), 1250);
        x = ends("n = 0 ; for i to 3 { for j to 2 { n = n * 10 + i + j ; } } give n * 10 + i ;", 1);
        Check.due("gave", x.gave(-1), 112232);
        x = ends("b = 2 ; n = 0 ; for b to b + 1 { b = 9 ; n = n + 1 ; } give n ;", 1);
        Check.due("the bound is asked for once", x.gave(-1), 3);
        x = ends("n = 0 ; for i to 3 { for i to 2 { n = n + 1 ; } n = n + 10 * i ; } give n ;", 1);
        Check.due("gave", x.gave(-1), 36);
        gives("n", 5, "n = 5 ; if lacks ( none ) = 0 { n = 6 ; }");
        gives("n", 1, "n = 0 ; for i to 1 { n = n + 1 ; }");
        gives("lacks ( i )", 1, "for i to 0 { }");
        gives("i", 2, "for i to 3 { }");
        gives("7", 7, "if 1 { } else { give 1 ; }");
        ends("for i to person ( 0 ) { }", CAST);
        ends("for i to row ( 1 ) { }", CAST);
        ends("if row ( 1 ) { }", CAST);
        ends("if 0.0 { }", CAST);
        x = school("a , b", "for i to a { give i ; } give - 1 ;");
        for (int a : new int[] {LEAST, -1, 0}) {
            Check.due("run", x.run(0, 9, a, 0, 0, 0), 1);
            Check.due("gave", x.gave(-1), -1);
        }
        Check.due("run", x.run(0, 9, GREATEST, 0, 0, 0), 1);
        Check.due("gave", x.gave(-1), 0);
        x = school("a", "if a { give 1 ; }");
        for (int a : new int[] {LEAST, -1, 1, GREATEST}) Check.due("run", x.run(0, 9, a, 0, 0, 0), 1);
        Check.due("run", x.run(0, 9, 0, 0, 0, 0), 0);
    }

    private static void tries() {
        Check.part("tries");
        value("try { n = 1 ; } on divide { n = n + 10 ; } always { n = n + 100 ; } give n ;", 101);
        value("try { n = 1 / 0 ; } on divide { n = n + 10 ; } always { n = n + 100 ; } give n ;", 110);
        value("try { n = 1 / 0 ; } on index { n = n + 10 ; } on divide { n = n + 20 ; } give n ;", 20);
        ends("try { n = 1 / 0 ; } on index { } always { n = 1 ; }", DIVIDE);
        value("try { try { n = 1 / 0 ; } on index { n = 7 ; } always { n = n + 100 ; } } on divide { n = n + 1 ; } give n ;", 101);
        // what the block of "on" FAILS with is not caught beside it
        ends("try { n = 1 / 0 ; } on divide { raise index ; } on index { give 1 ; }", INDEX);
        value("try { try { n = 1 / 0 ; } on divide { raise index ; } always { n = n + 5 ; } } on index { n = n + 1 ; } give n ;", 6);
        // "always" takes over
        ends("try { raise divide ; } always { raise size ; }", SIZE);
        value("try { raise divide ; } always { give 4 ; }", 4);
        value("try { give 3 ; } always { give 4 ; }", 4);
        ends("try { give 3 ; } always { raise store ; }", STORE);
        value("try { give n ; } always { n = 9 ; }", 0);
        value("try { raise null ; } on null { give 5 ; } always { n = 9 ; }", 5);
        value("try { raise null ; } on null { give 5 ; } always { give 6 ; }", 6);
        value("try { give 1 ; } on null { give 5 ; } always { try { raise null ; } on null { } }", 1);
        value("try { try { give 1 ; } always { raise exact ; } } on exact { give 2 ; }", 2);
        value("try { try { give 1 ; } always { n = 3 ; } } always { give n + 4 ; }", 7);
        ends("try { raise null ; } always { try { raise size ; } on size { } }", NULL);
        value("for i to 5 { try { if i = 3 { give n ; } raise null ; } on null { n = n + 1 ; } always { n = n + 10 ; } } give 99 ;", 33);
        value("for i to 3 { try { for j to 9 { if j = 2 { raise cast ; } n = n + 1 ; } } on cast { n = n + 10 * i ; } } give n ;", 36);
        // an item that is half asked for leaves nothing behind
        value("try { n = 1 + ( 2 + ( 3 / 0 ) ) ; } on divide { n = 8 ; } give n + 1 ;", 9);
        // by calls
        SchoolHouse x = Check.school("rule f ( n ) { try { give g ( n ) ; } on index { give 100 ; } always { n = 5 ; } } "
            + "rule g ( n ) { try { if n = 0 { raise index ; } if n = 1 { raise size ; } if n = 2 { give 7 ; } } on size { give 8 ; } give 9 ; }");
        int[] due = {100, 8, 7, 9};
        for (int n = 0; n < 4; n++) {
            Check.due("run", x.run(0, 99, n, 0, 0, 0), 1);
            Check.due("gave", x.gave(-1), due[n]);
        }
        x = Check.school("rule f ( n ) { try { n = g ( n ) + 1 ; } } rule g ( n ) { for i to 3 { for j to 3 { try { raise cast ; } always { n = n + 1 ; } } } }");
        Check.due("run", x.run(0, 99, 0, 0, 0, 0), CAST);
        Check.due("one failure", x.count(12), 1);
        x = Check.school("rule f ( n ) { r = row ( 9 ) ; try { r [ g ( r ) ] = 1 ; } always { give r ; } } "
            + "rule g ( r ) { try { raise null ; } always { r [ 0 ] = r [ 0 ] + 1 ; raise index ; } }");
        Check.due("run", x.run(0, 99, 0, 0, 0, 0), 4);
        Check.due("always once", x.gave(0), 1);
        Check.due("failures", x.count(12), 2);
    }

    private static void eachFailure() {
        Check.part("each of the failures");
        String[] names = {"divide", "index", "null", "cast", "size", "store", "exact"};
        String all = "";
        for (int i = 0; i < 7; i++) all += "on " + names[i] + " { n = n + " + (i + 1) + " ; } ";
        for (int i = 0; i < 7; i++) {
            String raise = "raise " + names[i] + " ; ";
            ends("try { " + raise + "} always { n = 1 ; }", -11 - i);
            ends("try { " + raise + "} on " + names[(i + 1) % 7] + " { } on " + names[(i + 6) % 7] + " { } always { n = 1 ; }", -11 - i);
            value("try { " + raise + "} on " + names[i] + " { give 5 ; }", 5);
            // what stands behind the block that is done is not done
            value("try { " + raise + "n = 100 ; } " + all + "give n ;", i + 1);
            value("try { " + raise + "} " + all + "always { n = n + 10 ; } give n ;", i + 11);
            // neither is what went on behind an "always" before
            value("try { try { raise size ; } always { n = 20 ; } } on size { } try { " + raise + "} " + all + "give n ;", i + 21);
            ends("try { try { give 9 ; } always { " + raise + "} } on size { } try { raise null ; } on null { } give none ;", i == 4 ? 0 : -11 - i);
        }
        // what is given is kept while "always" is done
        ends("try { give none ; } always { n = 1 ; } give 5 ;", 0);
        ends("try { give 2.5 ; } always { n = 1 ; } give 5 ;", 2);
        ends("try { give person ( 0 ) ; } always { n = 1 ; } give 5 ;", 3);
        SchoolHouse x = ends("try { give person ( 1 ) ; } always { n = 1 ; x = row ( 3 ) ; } give 5 ;", 3);
        Check.due("gave", x.gave(-3), 1);
        String[] rows = {"row", "reals", "people", "teachers"};
        for (int i = 0; i < 4; i++) ends("try { give " + rows[i] + " ( 1 ) ; } always { n = 1 ; } give 5 ;", 4 + i);
        ends("try { try { give none ; } always { raise null ; } } on null { give 1 ; }", 1);
    }

    /** What a rule that is called does with its own tries, while one of the caller's is under way. */
    private static void triesAndCalls() {
        Check.part("tries and calls");
        String f = "rule f ( k ) { r = row ( 4 ) ; try { r [ 3 ] = g ( r , k ) ; } on null { r [ 3 ] = 7 ; } always { r [ 0 ] = r [ 0 ] + 1 ; } give r ; } ";
        SchoolHouse x = Check.school(f + "rule g ( r , k ) { try { if k = 0 { give 5 ; } if k = 1 { raise null ; } if k = 2 { raise size ; } } on size { give 6 ; } "
            + "always { r [ 1 ] = r [ 1 ] + 1 ; } give 8 ; }");
        int[] due = {5, 7, 6, 8};
        for (int k = 0; k < 4; k++) {
            Check.due("run", x.run(0, 99, k, 0, 0, 0), 4);
            items(x, 1, 1, 0, due[k]);
        }
        // a rule without a try gives from within the caller's
        x = Check.school(f + "rule g ( r , k ) { for i to 3 { if i = k { give k * 10 ; } } }");
        for (int k = 0; k < 3; k++) {
            Check.due("run", x.run(0, 99, k, 0, 0, 0), 4);
            items(x, 1, 0, 0, k * 10);
        }
        Check.due("none for a whole", x.run(0, 99, 5, 0, 0, 0), 4);
        items(x, 1, 0, 0, 7);
        // two tries of the one that is called, both in the caller's
        x = Check.school(f + "rule g ( r , k ) { try { try { give k ; } always { r [ 1 ] = r [ 1 ] * 10 + 2 ; } } always { r [ 1 ] = r [ 1 ] * 10 + 3 ; "
            + "if k = 1 { raise null ; } if k = 2 { give 9 ; } } }");
        int[] last = {0, 7, 9};
        for (int k = 0; k < 3; k++) {
            Check.due("run", x.run(0, 99, k, 0, 0, 0), 4);
            items(x, 1, 23, 0, last[k]);
        }
        // from "on" and from "always", too
        x = Check.school("rule f ( k ) { r = row ( 2 ) ; try { try { raise cast ; } on cast { x = g ( r ) ; } always { x = g ( r ) ; } } "
            + "on size { r [ 1 ] = 5 ; } give r ; } rule g ( r ) { r [ 0 ] = r [ 0 ] + 1 ; if r [ 0 ] = 2 { raise size ; } raise cast ; }");
        Check.due("run", x.run(0, 99, 0, 0, 0, 0), 4);
        items(x, 2, 5);
        Check.due("failures", x.count(12), 3);
    }

    private static void value(String block, int due) {
        SchoolHouse x = ends("n = 0 ; " + block, 1);
        Check.due("gave of " + block, x.gave(-1), due);
    }

    private static void steps() {
        Check.part("promise 14");
        String block = "n = 0 ; if n = 0 { n = 1 ; } else { n = 2 ; n = 3 ; } for i to 2 { n = n + 1 ; } "
            + "try { n = 1 / 0 ; } on divide { n = 1 ; } always { n = 2 ; } give n ;";
        // 1, 2, 1 + 2 * 2, 4, 1
        SchoolHouse x = school("a", block);
        Check.due("without", x.steps(), 0);
        for (int s = 1; s < 13; s++) {
            Check.due("run", x.run(0, s, 0, 0, 0, 0), -20);
            Check.due("steps", x.steps(), s);
        }
        Check.due("run", x.run(0, 13, 0, 0, 0, 0), 1);
        Check.due("steps", x.steps(), 13);
        Check.due("refused", x.run(0, 0, 0, 0, 0, 0), -1);
        Check.due("steps", x.steps(), 13);
        // the round, then the act in it; the bound costs nothing at the end
        x = school("a", "for i to a { }");
        Check.due("run", x.run(0, 5, 4, 0, 0, 0), 0);
        Check.due("steps", x.steps(), 5);
        Check.due("run", x.run(0, 4, 4, 0, 0, 0), -20);
        // spent steps end all at once
        x = school("a", "try { for i to 99 { } } always { give 5 ; }");
        Check.due("run", x.run(0, 50, 4, 0, 0, 0), -20);
        Check.due("steps", x.steps(), 50);
        // a call is one, behind its exps
        x = Check.school("rule f ( n ) { give g ( 1 / n ) ; } rule g ( n ) { }");
        Check.due("run", x.run(0, 9, 0, 0, 0, 0), DIVIDE);
        Check.due("steps", x.steps(), 1);
        Check.due("run", x.run(0, 1, 1, 0, 0, 0), -20);
        Check.due("run", x.run(0, 2, 1, 0, 0, 0), 0);
        Check.due("steps", x.steps(), 2);
        x = school("a", "for i to a { }");
        Check.due("run", x.run(0, 9, 2, 0, 0, 0), 0);
        Check.due("stand", x.stand(0, 3000), 1);
        Check.due("steps of the run", x.steps(), 3);
        Check.due("the most", x.run(0, 3000, 2999, 0, 0, 0), 0);
        Check.due("steps", x.steps(), 3000);
        Check.due("one more", x.run(0, 3000, 3000, 0, 0, 0), -20);
        Check.due("steps", x.steps(), 3000);
        // a rule of no acts does no steps, and ends with the least of them
        x = school("a", "");
        Check.due("run", x.run(0, 1, 0, 0, 0, 0), 0);
        Check.due("steps", x.steps(), 0);
        // what was done stays done
        x = school("a", "x = marks ( 2 , 0 ) ; x [ 0 ] = 5 ; x [ 1 ] = 6 ; x [ 2 ] = 7 ;");
        Check.due("run", x.run(0, 3, 0, 0, 0, 0), -20);
        int[] marks = {5, 6, 0};
        for (int i = 0; i < 3; i++) Check.due("markOf", x.markOf(2, 0, i), marks[i]);
        // an act that FAILS is a step all the same, and so is a "raise"
        x = school("a", "try { a = 1 / 0 ; } on divide { raise size ; }");
        Check.due("run", x.run(0, 9, 0, 0, 0, 0), SIZE);
        Check.due("steps", x.steps(), 3);
        Check.due("run", x.run(0, 2, 0, 0, 0, 0), -20);
        Check.due("one failure for it", x.count(12), 3);
    }

    private static void calls() {
        Check.part("calls");
        SchoolHouse x = Check.school("rule f ( n ) { if n < 1 { give 0 ; } give f ( n - 1 ) + 1 ; }");
        Check.due("8 in one another", x.run(0, 3000, 7, 0, 0, 0), 1);
        Check.due("gave", x.gave(-1), 7);
        Check.due("9", x.run(0, 3000, 8, 0, 0, 0), -21);
        Check.due("steps", x.steps(), 24);
        Check.due("steps ahead of depth", x.run(0, 23, 8, 0, 0, 0), -20);
        Check.due("the step of the 9th call", x.run(0, 24, 8, 0, 0, 0), -21);
        Check.due("gave", x.gave(-1), 0);
        // the exps of the 9th call are asked for ahead of it
        SchoolHouse y = Check.school("rule f ( n ) { if n = 7 { give f ( 1 / 0 ) ; } give f ( n + 1 ) ; }");
        Check.due("run", y.run(0, 3000, 0, 0, 0, 0), DIVIDE);
        Check.due("steps", y.steps(), 7 * 3 + 2);
        // one behind the other they are not in one another
        y = Check.school("rule f ( n ) { for i to 99 { n = g ( n ) ; } give n ; } rule g ( n ) { give n + 1 ; }");
        Check.due("run", y.run(0, 3000, 0, 0, 0, 0), 1);
        Check.due("gave", y.gave(-1), 99);
        x = Check.school("rule f ( n ) { try { give f ( n ) ; } always { give 5 ; } }");
        Check.due("no always", x.run(0, 3000, 8, 0, 0, 0), -21);
        Check.due("failures", x.count(12), 0);
        x = Check.school("rule f ( a , b , c , d ) { give g ( d , c ) * 10 + g ( b , a ) ; } rule g ( x , y ) { y = y + 0 ; give x - y ; }");
        Check.due("run", x.run(0, 3000, 1, 3, 4, 9), 1);
        Check.due("gave", x.gave(-1), 52);
        // each call begins with NONE in what is none of its names
        x = Check.school("rule f ( ) { give g ( 1 ) + g ( 2 ) * 10 + g ( 3 ) * 100 ; } rule g ( n ) { if lacks ( y ) = 0 { raise null ; } y = n ; give y ; }");
        Check.due("run", x.run(0, 3000, 0, 0, 0, 0), 1);
        Check.due("gave", x.gave(-1), 321);
        Check.due("run", x.run(1, 3000, 4, 0, 0, 0), 1);
        Check.due("run", x.run(1, 3000, 5, 0, 0, 0), 1);
        Check.due("gave", x.gave(-1), 5);
        // variables are of their own call; rows are not copied
        x = Check.school("rule f ( a ) { x = 5 ; r = row ( 1 ) ; y = g ( r ) ; give r [ 0 ] * 100 + x * 10 + lacks ( y ) ; } "
            + "rule g ( x ) { x [ 0 ] = 7 ; x = 3 ; if lacks ( y ) = 0 { raise null ; } y = 1 ; }");
        Check.due("run", x.run(0, 3000, 1, 3, 4, 9), 1);
        Check.due("gave", x.gave(-1), 751);
    }

    private static void large() {
        Check.part("large rules");
        // many variables in each of 8 rules in one another
        StringBuilder b = new StringBuilder("rule f(n){");
        for (int i = 0; i < 150; i++) b.append('v').append(i).append("=n;");
        SchoolHouse x = Check.school(b + "if n>0{v7=f(n-1);}give v0*1000+v149*100+v7;}");
        Check.due("run", x.run(0, 3000, 7, 0, 0, 0), 1);
        int due = 0;
        for (int n = 1; n <= 7; n++) due = n * 1100 + due;
        Check.due("gave", x.gave(-1), due);
        // what lies on the stack below a call: the rounds around it, and the parts of its exp
        x = Check.school("rule f(n){if n<1{give 1;}" + "for i to 1{".repeat(10) + "x=1+f(n-1);" + "}".repeat(10) + "give x;}");
        Check.due("run", x.run(0, 3000, 7, 0, 0, 0), 1);
        Check.due("gave", x.gave(-1), 8);
        x = Check.school("rule f(n){if n<1{give row(2);}r=row(2);copy r,0,r,0," + "1-(".repeat(8) + "size(f(n-1))" + ")".repeat(8) + ";give r;}");
        Check.due("run", x.run(0, 3000, 7, 0, 0, 0), 4);
        // as much code as a text can ask for
        String tries = "try{}".repeat(396);
        x = Check.school("rule f(){" + tries + "try{raise cast;}" + "on null{}on size{}on index{}on cast{give 7;}" + "}");
        Check.due("run", x.run(0, 3000, 0, 0, 0, 0), 1);
        Check.due("gave", x.gave(-1), 7);
        Check.due("steps", x.steps(), 399);
        // tries in one another in rules in one another
        x = Check.school("rule f(n){" + "try{".repeat(9) + "if n{give f(n-1);}raise size;" + "}always{n=n+1;}".repeat(9) + "}");
        Check.due("run", x.run(0, 3000, 7, 0, 0, 0), SIZE);
        Check.due("steps", x.steps(), 8 * 19 + 7 * 2 + 1);
        Check.due("failures", x.count(12), 1);
    }

    private static void failuresSpent() {
        Check.part("failures spent");
        SchoolHouse x = Check.school("group g 9 ; rule f ( n ) { for i to n { try { raise size ; } on size { } } give n ; } rule g ( ) { give 1 / 0 ; } "
            + "rule h ( n ) { try { raise size ; } on size { try { n = 1 / 0 ; } on divide { give 1 ; } always { give 2 ; } } }");
        x.pupil(0, 0);
        for (int i = 0; i < 10; i++) Check.due("run", x.run(0, 3000, 999, 0, 0, 0), 1);
        Check.due("failures", x.count(12), 9990);
        Check.due("run", x.run(0, 3000, 8, 0, 0, 0), 1);
        Check.due("run", x.run(1, 3000, 0, 0, 0, 0), DIVIDE);
        Check.due("failures", x.count(12), 9999);
        Check.due("at once", x.run(2, 3000, 0, 0, 0, 0), -23);
        Check.due("steps", x.steps(), 4);
        Check.due("failures", x.count(12), 10000);
        Check.due("none begins", x.run(0, 3000, 0, 0, 0, 0), -23);
        Check.due("steps", x.steps(), 0);
        Check.due("refused first", x.run(3, 3000, 0, 0, 0, 0), -1);
        Check.due("stand", x.stand(0, 100), 1);
        Check.due("standing", x.standing(0), 0);
        Check.due("read", Check.read(x, "rule f ( ) { }"), 1);
        Check.due("failures", x.count(12), 10000);
        Check.due("none begins", x.run(0, 3000, 0, 0, 0, 0), -23);
        Check.due("what is no run goes on", x.parent(0), 0);
        Check.due("read", Check.read(x, "group g 9 ; rule f ( p ) { give 0 - p ; }"), 1);
        for (int i = 0; i < 3; i++) x.pupil(0, 0);
        Check.due("stand", x.stand(0, 100), 3);
        for (int k = 0; k < 3; k++) Check.due("none has a number", x.standing(k), k);
        // the last FAILURE can come while pupils stand
        x = Check.school("group g 9 ; rule f ( n ) { for i to n { try { raise size ; } on size { } } give n ; } rule g ( p ) { if p = 1 { raise null ; } give 0 - p ; }");
        for (int i = 0; i < 4; i++) x.pupil(0, 0);
        for (int i = 0; i < 10; i++) x.run(0, 3000, 999, 0, 0, 0);
        x.run(0, 3000, 9, 0, 0, 0);
        Check.due("failures", x.count(12), 9999);
        Check.due("stand", x.stand(1, 100), 4);
        int[] due = {0, 1, 2, 3};
        for (int k = 0; k < 4; k++) Check.due("standing " + k, x.standing(k), due[k]);
        Check.due("failures", x.count(12), 10000);
    }

    private static void gave() {
        Check.part("promise 13");
        SchoolHouse x = school("k", "r = people ( 2 ) ; r [ 1 ] = person ( 2 ) ; v = reals ( 2 ) ; v [ 0 ] = - 0.0 ; if k = 1 { give - 5 ; } "
            + "if k = 2 { give 1.5 ; } if k = 3 { give person ( 2 ) ; } if k = 4 { give r ; } if k = 5 { give v ; } if k = 6 { give marks ( 2 , 0 ) ; } "
            + "if k = 7 { raise null ; } if k = 8 { for i to 99999 { } }");
        long[][] due = {{0, 0, 0, 0, 0, 0}, {0, 0, 0, -5, 0, 0}, {0, 0, Double.doubleToLongBits(1.5), 0, 0, 0}, {0, 2, 0, 0, 0, 0},
            {2, 0, 0, 0, -9, 2}, {2, 0, 0, 0, Double.doubleToLongBits(-0.0), 0}, {3, 0, 0, 0, 0, 0}, {0, 0, 0, 0, 0, 0}, {0, 0, 0, 0, 0, 0}};
        for (int k = 0; k < due.length; k++) {
            x.run(0, 3000, k, 0, 0, 0);
            for (int i = -4; i < 2; i++) Check.due("gave " + k + " " + i, x.gave(i), due[k][i + 4]);
            Check.due("beyond", x.gave(3), 0);
            Check.due("beyond", x.gave(-5), 0);
            Check.due("beyond", x.gave(LEAST), 0);
            Check.due("beyond", x.gave(GREATEST), 0);
        }
        x.run(0, 3000, 6, 0, 0, 0);
        x.run(0, 0, 1, 0, 0, 0);
        x.mark(2, 0, 1, 44);
        Check.due("as it is now", x.gave(1), 44);
        x.stand(0, 3000);
        Check.due("as it is now", x.gave(1), 44);
        x = school("k", "r = row ( 64 ) ; r [ 0 ] = - 1 ; r [ 63 ] = 63 ; if k { give r ; } give row ( 0 ) ;");
        x.run(0, 9, 1, 0, 0, 0);
        Check.due("how many", x.gave(-4), 64);
        Check.due("the first", x.gave(0), -1);
        Check.due("the last", x.gave(63), 63);
        Check.due("behind the last", x.gave(64), 0);
        x.run(0, 9, 0, 0, 0, 0);
        Check.due("an empty row", x.gave(-4), 0);
        Check.due("an empty row", x.gave(0), 0);
        x = school("k", "if k = 1 { give 0.0 / 0 ; } r = reals ( 1 ) ; r [ 0 ] = - ( 0.0 / 0 ) ; give r ;");
        x.run(0, 9, 1, 0, 0, 0);
        Check.due("all NaN are one", x.gave(-2), Double.doubleToLongBits(Double.NaN));
        x.run(0, 9, 0, 0, 0, 0);
        Check.due("all NaN are one", x.gave(0), Double.doubleToLongBits(Double.NaN));
        x = school("k", "if k < 0 { give k ; } if k = 0 { give person ( 0 ) ; } r = teachers ( 2 ) ; r [ 0 ] = person ( 0 ) ; give r ;");
        for (int k : new int[] {LEAST, -1, -9}) {
            x.run(0, 9, k, 0, 0, 0);
            Check.due("a whole below 0", x.gave(-1), k);
            Check.due("no person", x.gave(-3), 0);
        }
        x.run(0, 9, 0, 0, 0, 0);
        Check.due("person 0", x.gave(-3), 0);
        x.run(0, 9, 1, 0, 0, 0);
        Check.due("teacher 0", x.gave(0), 0);
        Check.due("none", x.gave(1), -9);
        Check.due("beyond", x.gave(2), 0);
    }

    private static void standings() {
        Check.part("promise 15");
        SchoolHouse x = Check.school("group g 9 ; rule f ( p ) { give 0 - p ; } rule g ( ) { } rule h ( a , b ) { }");
        Check.due("none yet", x.stand(0, 9), 0);
        Check.due("none stands", x.standing(0), -1);
        Check.due("no rule", x.stand(3, 9), -1);
        Check.due("no rule", x.stand(-1, 9), -1);
        Check.due("steps", x.stand(0, 0), -1);
        Check.due("steps", x.stand(0, 3001), -1);
        Check.due("no names", x.stand(1, 9), -1);
        Check.due("two names", x.stand(2, 9), -1);
        x.pupil(0, 0);
        x.parent(0);
        x.pupil(0, 0);
        Check.due("two", x.stand(0, 9), 2);
        Check.part("promise 16");
        Check.due("first", x.standing(0), 2);
        Check.due("second", x.standing(1), 0);
        Check.due("none such", x.standing(2), -1);
        Check.due("none such", x.standing(-1), -1);
        x.parent(0);
        Check.due("behind a parent", x.standing(0), 2);
        x.pupil(0, 100);
        x.stand(2, 9);
        Check.due("behind what is refused", x.standing(0), 2);
        x.pupil(0, 0);
        Check.due("behind a pupil", x.standing(0), -1);
        Check.due("three", x.stand(0, 9), 3);
        Check.due("first", x.standing(0), 4);
        Check.due("again three", x.stand(0, 9), 3);
        int[] due = {4, 2, 0, -1};
        for (int k = 0; k < 4; k++) Check.due("standing " + k, x.standing(k), due[k]);
        SchoolHouse y = x;
        Check.wrong(y::standing, -1, 3);
        Check.wrong(n -> y.stand(n, 9), -1, 3);
        Check.wrong(n -> y.stand(0, n), -1, 3001);
        Check.due("0 steps", x.stand(0, 0), -1);
        Check.due("no group", x.pupil(1, 0), -1);
        Check.due("what is refused leaves them", x.standing(2), 0);
        Check.read(x, "x");
        Check.due("behind a fault", x.standing(0), 4);
        Check.read(x, "");
        Check.due("behind a text", x.standing(0), -1);
    }

    private static void standingOrder() {
        Check.part("promise 15, order");
        SchoolHouse x = Check.school("group g 99 ; rule f ( p ) { if p = 0 { raise null ; } if p = 1 { give 0.0 / 0 ; } if p = 2 { give 2 ; } "
            + "if p = 3 { give 2.0 ; } if p = 4 { give - 1.0 / 0 ; } if p = 5 { give 1.0 / 0 ; } if p = 6 { give 0.0 ; } if p = 7 { give - 0.0 ; } "
            + "if p = 8 { give 0 ; } if p = 9 { give 1.5 ; } if p = 10 { for i to 999 { } } if p = 11 { give row ( 1 ) ; } if p = 12 { give 0.0 / 0 ; } "
            + "if p = 13 { give - 999999 * 2000 ; } }");
        for (int i = 0; i < 15; i++) x.pupil(0, 0);
        Check.due("stand", x.stand(0, 100), 15);
        int[] due = {4, 13, 6, 7, 8, 9, 2, 3, 5, 1, 12, 0, 10, 11, 14};
        for (int k = 0; k < 15; k++) Check.due("standing " + k, x.standing(k), due[k]);
        Check.due("failures", x.count(12), 1);
        Check.due("rows", x.count(11), 1);
        standingEdges();
        // steps are for each pupil anew
        x = Check.school("group g 99 ; rule f ( p ) { for i to 9 { } give p ; }");
        for (int i = 0; i < 5; i++) x.pupil(0, 0);
        Check.due("stand", x.stand(0, 11), 5);
        Check.due("standing", x.standing(4), 4);
    }

    private static void standingEdges() {
        // 24 pupils, the last one first; 3000 steps each
        SchoolHouse x = Check.school("group g 99 ; rule f ( p ) { for i to 1498 { n = p ; } give - n ; } rule g ( p ) { give 3 ; }");
        for (int i = 0; i < 24; i++) x.pupil(0, 0);
        Check.due("stand", x.stand(0, 3000), 24);
        for (int k = 0; k < 24; k++) Check.due("standing " + k, x.standing(k), 23 - k);
        Check.due("behind the last", x.standing(24), -1);
        Check.due("stand", x.stand(1, 1), 24);
        for (int k = 0; k < 24; k++) Check.due("standing " + k, x.standing(k), k);
        // wholes and reals stand by their doubles, and what ends a run stands behind
        x = Check.school("group g 2 ; group h 99 ; rule f ( p ) { m = marks ( p , 0 ) ; if lacks ( m ) { give m ; } if m [ 0 ] > 0 { give m [ 0 ] ; } "
            + "if m [ 0 ] = 0 { give 1.5 ; } if m [ 0 ] = - 1 { raise exact ; } for i to 99999 { } } course c 9 ;");
        x.parent(0);
        int[] marks = {-2, 2, 0, 1, -1, 2, 0};
        for (int i = 0; i < marks.length; i++) {
            int p = x.pupil(1, 0);
            x.marks(p, 0, 1);
            x.mark(p, 0, 0, marks[i]);
        }
        x.pupil(0, 0);
        Check.due("stand", x.stand(0, 100), 8);
        int[] due = {4, 3, 7, 2, 6, 1, 5, 8};
        for (int k = 0; k < due.length; k++) Check.due("standing " + k, x.standing(k), due[k]);
        x.mark(1, 0, 0, 3);
        Check.due("as they stood", x.standing(0), 4);
        Check.due("stand", x.stand(0, 100), 8);
        // 3 is behind the twos, ahead of those that gave no number
        due = new int[] {4, 3, 7, 2, 6, 1, 5, 8};
        for (int k = 0; k < due.length; k++) Check.due("standing " + k, x.standing(k), due[k]);
    }
}
