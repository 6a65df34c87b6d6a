/** The example of README.md, call by call. */
public final class ExampleTest {
    private ExampleTest() {
    }

    private static final String TEXT = """
        subject math ; subject art ;
        room hall 30 ; room den 4 ;
        staff ann teacher : math ; staff bob head : math , art ;
        group a 20 ;
        lesson sums : math a ann 2 ;
        course chess 1 ; course choir 2 ;
        rule mean ( p ) {
          try {
            row = marks ( p , 0 ) ;
          }
        }
        """;

    private static final String MENDED = """
        subject math ; subject art ;
        room hall 30 ; room den 4 ;
        staff ann teacher : math ; staff bob head : math , art ;
        group a 20 ;
        lesson sums : math a ann 2 ;
        course chess 1 ; course choir 2 ;
        rule mean ( p ) {
          m = marks ( p , 0 ) ;
          s = 0 ;
          try {
            for i to size ( m ) { s = s + m [ i ] ; }
            give real ( s ) / size ( m ) ;
          } on null { give none ; }
        }
        """;

    public static void main(String[] args) {
        SchoolHouse x = new SchoolHouse();
        text(x);
        people(x);
        rules(x);
        table(x);
        choices(x);
        cover(x);
        Check.finish();
    }

    private static void text(SchoolHouse x) {
        Check.part("README: text");
        Check.feed(x, TEXT);
        Check.due("the place of a word that stands for itself", x.read(), -10 - TEXT.indexOf("row ="));
        Check.feed(x, MENDED);
        Check.due("rules", x.read(), 1);
        Check.due("staff", x.count(2), 2);
        Check.due("units", x.count(9), 2);
    }

    private static void people(SchoolHouse x) {
        Check.part("README: people");
        Check.due("pupil", x.pupil(0, 3), 2);
        Check.due("pupil", x.pupil(0, 5), 3);
        Check.due("parent", x.parent(0), 4);
        Check.due("no such group", x.pupil(1, 0), SchoolHouse.BAD);
        Check.due("a head", x.person(1, 0), 4);
        Check.due("level of a head for marks", x.level(1, 0), 9);
        Check.due("marks", x.marks(2, 0, 2), 0);
        Check.due("mark", x.mark(2, 0, 0, 4), 0);
        Check.due("mark", x.mark(2, 0, 1, 1), 0);
        Check.due("how many marks", x.markOf(2, 0, -1), 2);
    }

    private static void rules(SchoolHouse x) {
        Check.part("README: rules");
        Check.due("a real", x.run(0, 100, 2, 0, 0, 0), 2);
        Check.due("its bits", x.gave(-2), Double.doubleToLongBits(2.5));
        Check.due("steps", x.steps(), 9);
        Check.due("index", x.run(0, 100, 4, 0, 0, 0), -12);
        Check.due("spent", x.run(0, 5, 2, 0, 0, 0), -20);
        Check.due("pupils", x.stand(0, 100), 2);
        Check.due("with a mean", x.standing(0), 2);
        Check.due("without", x.standing(1), 3);
    }

    private static void table(SchoolHouse x) {
        Check.part("README: the table");
        Check.due("periods a day", x.week(2), 4);
        Check.due("wish", x.wish(0, 0, 5), 0);
        Check.due("bar", x.bar(0, 1, 1), 0);
        Check.due("build", x.build(1000), 0);
        Check.due("weight", x.table(0), 0);
        Check.due("lesson", x.unit(0, 0), 0);
        Check.due("period", x.unit(0, 1), 2);
        Check.due("room", x.unit(0, 2), 0);
        Check.due("period", x.unit(1, 1), 4);
    }

    private static void choices(SchoolHouse x) {
        Check.part("README: choices");
        Check.due("first", x.prefer(2, 0), 1);
        Check.due("first", x.prefer(3, 0), 1);
        Check.due("second", x.prefer(3, 1), 2);
        Check.due("pupils", x.lottery(7), 2);
        Check.due("ticket", x.ticket(2, 0), -1009204151);
        Check.due("ticket", x.ticket(3, 0), -1001215598);
        Check.due("placed", x.match(0), 2);
        Check.due("chess", x.placed(2), 0);
        Check.due("choir", x.placed(3), 1);
        Check.due("stable", x.stable(), 0);
    }

    private static void cover(SchoolHouse x) {
        Check.part("README: cover");
        Check.due("absent", x.absent(0, 2, 1), 0);
        Check.due("nobody is missing", x.cover(2), 0);
        Check.due("bob", x.covers(0), 1);
        Check.due("not there", x.covers(1), SchoolHouse.NONE);
    }
}
